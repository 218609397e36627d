/** The bounds of promises 21 to 26: births and feasts. What is due was worked out by hand. */
public final class BoundsFeastsTests {
    private static final int NONE = Bench.NONE, UNKNOWN = Bench.UNKNOWN, OUTSIDE = Bench.OUTSIDE;
    private static final int[] BAD_DAYS = Bench.outside(0, 7);
    private static final int[] BAD_DATES = Bench.outside(0, 9999);

    // ---- 21 best

    private static void best(WeekOrders w, int birth, int many, int which) {
        Bench.due("best(" + birth + ", 0)", w.best(birth, 0), many);
        Bench.due("best(" + birth + ", 1)", w.best(birth, 1), which);
    }

    static void promise21_births0And99AreTaken() {
        best(Bench.one("abcdefg", 0), 0, 14, 0);
        best(Bench.one("abcdefg", 0), 99, 14, 1);
    }

    static void promise21_birthsMinus1And100AreOutside() {
        for (int birth : Bench.outside(0, 99)) {
            Bench.refused("best(" + birth + ", 0)", w -> w.best(birth, 0), OUTSIDE);
            Bench.refused("best(" + birth + ", 0) with nobody", WeekOrders::new, w -> w.best(birth, 0), OUTSIDE);
        }
    }

    static void promise21_whatsMinus1And2AreOutside() {
        for (int what : Bench.outside(0, 1)) {
            Bench.refused("best(0, " + what + ")", w -> w.best(0, what), OUTSIDE);
        }
    }

    static void promise21_14IfNobodyIsThere() {
        best(new WeekOrders(), 0, 14, 0);
        best(new WeekOrders(), 99, 14, 0);
        WeekOrders w = Bench.one("hgfed", 0);
        w.exile(0);
        best(w, 50, 14, 0);
    }

    static void promise21_turns0To6Forth() {
        for (int turn = 0; turn <= 6; turn++) {
            best(Bench.one("abcdefgabcdef".substring(turn, turn + 7), 20), 20, 14, turn);
        }
    }

    static void promise21_turns0To6Back() {
        for (int turn = 0; turn <= 6; turn++) {
            best(Bench.one("gfedcbagfedcb".substring(6 - turn, 13 - turn), 20), 20, 14, 10 + turn);
        }
    }

    static void promise21_theFirstAndTheLastOf14DatesCountAndThe15thDoesNot() {
        // He has b to g and a on dates 11 to 17, again on 19 to 25, and h between.
        best(Bench.one("hbcdefga", 10), 11, 7, 1);
        best(Bench.one("hbcdefga", 10), 12, 7, 1);
        best(Bench.one("hbcdefga", 10), 13, 7, 2);
        best(Bench.one("abcdefg", 13), 13, 14, 0);
        best(Bench.one("gfedcba", 13), 13, 14, 16);
    }

    static void promise21_theFewestOfAllWhoAreThere() {
        WeekOrders w = Bench.one("abcdefg", 0);
        Bench.born(w, 5, "gfedcba", 0);
        best(w, 0, 2, 0);
        w.exile(5);
        best(w, 0, 14, 0);
    }

    static void promise21_theLeastOfSeveral() {
        // No two of the six share a day: who goes forth misses one of them, who goes back has each twice.
        best(Bench.sixApart(), 0, 2, 10);
    }

    static void promise21_noDateOfAnyIs0AndTheLeast() {
        // Two go forth and two go back, so that whoever is born misses one of these or one of those.
        WeekOrders w = Bench.one("abcdefg", 0);
        Bench.born(w, 1, "bcdefga", 0);
        Bench.born(w, 2, "gfedcba", 0);
        Bench.born(w, 3, "fedcbag", 0);
        best(w, 0, 0, 0);
    }

    // ---- 22 feast

    static void promise22_dates0And9999AreTold() {
        WeekOrders w = Bench.one("abcdefgh", 0);
        Bench.due("feast(0)", w.feast(0), 0);
        Bench.due("feast(9999)", w.feast(9999), 7);
    }

    static void promise22_datesMinus1And10000AreOutside() {
        for (int date : BAD_DATES) {
            Bench.refused("feast(" + date + ")", w -> w.feast(date), OUTSIDE);
            Bench.refused("feast(" + date + ") with nobody", WeekOrders::new, w -> w.feast(date), OUTSIDE);
        }
    }

    static void promise22_noneIfNobodyIsThere() {
        Bench.due("feast(0)", new WeekOrders().feast(0), NONE);
        Bench.due("feast(9999)", new WeekOrders().feast(9999), NONE);
        WeekOrders w = Bench.one("abcde", 0);
        w.exile(0);
        Bench.due("feast(0) when he went", w.feast(0), NONE);
    }

    static void promise22_ofSeveralTheLeast() {
        Bench.due("six of one each", Bench.sixApart().feast(0), 0);
        Bench.due("six of one each on date 3", Bench.sixApart().feast(3), 0);
        WeekOrders w = Bench.one("hgfed", 0);
        Bench.born(w, 1, "gfedc", 0);
        Bench.due("g of g and h", w.feast(0), 6);
        Bench.born(w, 2, "hgfed", 0);
        Bench.due("h of one g and two h", w.feast(0), 7);
        Bench.born(w, 3, "gfedc", 0);
        Bench.due("g of two g and two h", w.feast(0), 6);
    }

    static void promise22_allSixHaveIt() {
        Bench.due("feast(6)", Bench.sixAlike().feast(6), 6);
    }

    // ---- 23 feasts

    static void promise23_days0And7AreTold() {
        Bench.due("feasts(0)", Bench.one("abcdefgh", 0).feasts(0), 105);
        Bench.due("feasts(7)", Bench.one("abcdefgh", 0).feasts(7), 105);
        Bench.due("feasts(7) of an order without it", Bench.one("abcdefg", 0).feasts(7), 0);
    }

    static void promise23_daysMinus1And8AreUnknown() {
        for (int day : BAD_DAYS) {
            Bench.refused("feasts(" + day + ")", w -> w.feasts(day), UNKNOWN);
        }
        Bench.refused("feasts(NONE) with nobody", WeekOrders::new, w -> w.feasts(NONE), UNKNOWN);
    }

    static void promise23_noneIfNobodyIsThere() {
        for (int day = 0; day < 8; day++) {
            Bench.due("feasts(" + day + ")", new WeekOrders().feasts(day), 0);
        }
    }

    static void promise23_dates0And839Count() {
        // Of abcdefg, a is on date 0 and on 840, g on 839.
        for (int day = 0; day < 7; day++) {
            Bench.due("feasts(" + day + ")", Bench.one("abcdefg", 0).feasts(day), 120);
        }
    }

    // ---- 24 poor

    static void promise24_noneIfNobodyIsThereOrOneAlone() {
        Bench.due("poor() with nobody", new WeekOrders().poor(), 0);
        Bench.due("poor() of one", Bench.one("abcde", 0).poor(), 0);
    }

    static void promise24_people0And5() {
        WeekOrders w = Bench.one("bcdefga", 0);
        Bench.born(w, 1, "abcdefg", 0);
        Bench.born(w, 2, "abcdefg", 0);
        Bench.born(w, 5, "cdefgab", 0);
        Bench.due("poor()", w.poor(), 33);
        w.exile(0);
        Bench.due("poor() when one went", w.poor(), 32);
    }

    static void promise24_aFeastOnDate0IsEnough() {
        // Three always have one day, and person 0 never has it; but on date 0, and on no other of the 840,
        // he and two more have d, which is less than their e.
        WeekOrders w = Bench.one("dafbgc", 0);
        Bench.born(w, 1, "dbcefgh", 0);
        Bench.born(w, 2, "dehag", 0);
        for (int person = 3; person < 6; person++) {
            Bench.born(w, person, "edafbgch", 0);
        }
        Bench.due("poor()", w.poor(), 0);
        Bench.due("who has the feast on 0", w.same(w.feast(0), 0), 7);
    }

    static void promise24_aFeastOnDate839IsEnough() {
        WeekOrders w = Bench.one("afbgcd", 0);
        Bench.born(w, 1, "bcefghd", 0);
        Bench.born(w, 2, "ehagd", 0);
        for (int person = 3; person < 6; person++) {
            Bench.born(w, person, "dafbgche", 0);
        }
        Bench.due("poor()", w.poor(), 0);
        Bench.due("who has the feast on 839", w.same(w.feast(839), 839), 7);
    }

    static void promise24_aFeastThatNeverComesIsNotEnough() {
        // As ahead of this, but the third has no d; and where all three have f or g, the others have less.
        WeekOrders w = Bench.one("dafbgc", 0);
        Bench.born(w, 1, "dbcefgh", 0);
        Bench.born(w, 2, "fehag", 0);
        for (int person = 3; person < 6; person++) {
            Bench.born(w, person, "edafbgch", 0);
        }
        Bench.due("poor()", w.poor(), 1);
    }

    // ---- 25 twins

    static void promise25_withFewerThanTwoPeopleThereAreNone() {
        for (WeekOrders w : new WeekOrders[] {new WeekOrders(), Bench.one("abcde", 0)}) {
            Bench.due("twins(-1)", w.twins(-1), 0);
            Bench.due("twins(0)", w.twins(0), NONE);
        }
    }

    private static WeekOrders sevenTwins() {
        WeekOrders w = new WeekOrders();
        for (int person = 0; person < 6; person++) {
            Bench.born(w, person, "abcde", person);
        }
        return w;
    }

    static void promise25_allSevenRising() {
        WeekOrders w = sevenTwins();
        Bench.due("twins(-1)", w.twins(-1), 7);
        int[] due = {1, 4, 12, 15, 23, 34, 45};
        for (int i = 0; i < due.length; i++) {
            Bench.due("twins(" + i + ")", w.twins(i), due[i]);
        }
    }

    static void promise25_beyondTheLastIsNone() {
        for (int i : new int[] {7, 8, 32, 256, 65536, Integer.MAX_VALUE}) {
            Bench.due("twins(" + i + ")", sevenTwins().twins(i), NONE);
        }
    }

    static void promise25_belowMinus1IsNone() {
        for (int i : new int[] {-2, -3, -6, -256, Integer.MIN_VALUE}) {
            Bench.due("twins(" + i + ")", sevenTwins().twins(i), NONE);
        }
    }

    private static void twins(String order, int birth, int due) {
        WeekOrders w = Bench.one("abcde", 50);
        Bench.born(w, 1, order, birth);
        Bench.due("twins of " + order + " on " + birth, w.twins(-1), due);
    }

    static void promise25_aDateLaterOrAheadButNotTwoAndNotNone() {
        twins("abcde", 51, 1);
        twins("abcde", 49, 1);
        twins("abcde", 50, 0);
        twins("abcde", 52, 0);
        twins("abcde", 48, 0);
    }

    static void promise25_alsoRoundTheOrder() {
        twins("abcde", 54, 1);
        twins("abcde", 46, 1);
        twins("abcde", 55, 0);
        twins("abcde", 0, 0);
        twins("abcde", 1, 1);
        twins("abcde", 99, 1);
    }

    static void promise25_byTheirDaysThoughTheOrderIsToldOtherwise() {
        twins("bcdea", 50, 1);
        twins("eabcd", 50, 1);
        twins("bcdea", 51, 0);
        twins("cdeab", 51, 1);
    }

    static void promise25_alwaysAndNotButOnSomeDates() {
        twins("abcdf", 51, 0);
        twins("abced", 51, 0);
        twins("abcdef", 51, 0);
    }

    static void promise25_whoWentIsNotAmongThem() {
        WeekOrders w = sevenTwins();
        w.exile(4);
        Bench.due("twins(-1)", w.twins(-1), 4);
        Bench.due("twins(1)", w.twins(1), 12);
        Bench.due("twins(4)", w.twins(4), NONE);
    }

    // ---- 26 oneOrder

    private static void oneOrder(WeekOrders w, int person, int won, int lost) {
        Bench.due("oneOrder(" + person + ", 0)", w.oneOrder(person, 0), won);
        Bench.due("oneOrder(" + person + ", 1)", w.oneOrder(person, 1), lost);
    }

    private static WeekOrders pair(String order) {
        WeekOrders w = Bench.one("abcdefg", 0);
        Bench.born(w, 1, order, 0);
        return w;
    }

    static void promise26_whoIsNotThereIsUnknown() {
        for (int person : Bench.ABSENT) {
            Bench.refused("oneOrder(" + person + ", 0)", w -> w.oneOrder(person, 0), UNKNOWN);
        }
    }

    static void promise26_whatsMinus1And2AreOutside() {
        for (int what : Bench.outside(0, 1)) {
            Bench.refused("oneOrder(0, " + what + ")", w -> w.oneOrder(0, what), OUTSIDE);
        }
    }

    static void promise26_unknownAheadOfOutside() {
        for (int person : Bench.ABSENT) {
            Bench.refused("oneOrder(" + person + ", 2)", w -> w.oneOrder(person, 2), UNKNOWN);
            Bench.refused("oneOrder(" + person + ", -1)", w -> w.oneOrder(person, -1), UNKNOWN);
        }
    }

    static void promise26_oneAloneWinsAndLosesNothing() {
        oneOrder(Bench.one("abcde", 99), 0, 0, 0);
        oneOrder(Bench.sixAlike(), 5, 0, 0);
    }

    static void promise26_fromNoDateToAll28() {
        oneOrder(Bench.sixApart(), 0, 28, 140);
        oneOrder(Bench.sixApart(), 5, 28, 140);
    }

    static void promise26_date0IsTheFirstOfThe28() {
        // One day on dates 0, 1, 3 and 4, but not on 28.
        oneOrder(pair("abhde"), 0, 24, 24);
        oneOrder(pair("abhde"), 1, 24, 24);
    }

    static void promise26_date27IsTheLastOfThe28() {
        // One day on dates 1, 3, 4 and 5, but neither on 27 nor on 28; on 1, 4, 5 and 27, and on 28.
        oneOrder(pair("fbhde"), 0, 24, 24);
        oneOrder(pair("fbgae"), 0, 24, 24);
    }

    public static void main(String[] args) {
        Bench.run(BoundsFeastsTests.class, 21, 26);
    }
}
