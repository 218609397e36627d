/** The bounds of promises 15 to 20: works and weddings. What is due was worked out by hand. */
public final class BoundsWorksTests {
    private static final int NONE = Bench.NONE, UNKNOWN = Bench.UNKNOWN, OUTSIDE = Bench.OUTSIDE,
        STATE = Bench.STATE, NO = Bench.NO;
    private static final int[] BAD_DATES = Bench.outside(0, 9999);
    /** The plan of lively() has three works. */
    private static final int[] BAD_WORKS = Bench.outside(0, 2);

    private static WeekOrders planned(WeekOrders w, String plan) {
        Bench.plan(w, plan);
        return w;
    }

    // ---- 15 can

    private static void can(WeekOrders w, int work, int date, int due) {
        Bench.due("can(" + work + ", " + date + ")", w.can(work, date), due);
    }

    static void promise15_worksFromTheFirstToTheLast() {
        WeekOrders w = planned(Bench.two(), "a0;b0;c0;d0;e0;f0;");
        can(w, 0, 0, 1);
        can(w, 5, 5, 1);
        can(w, 5, 0, 0);
    }

    static void promise15_worksMinus1AndBeyondTheLastAreUnknown() {
        for (int work : BAD_WORKS) {
            Bench.refused("can(" + work + ", 0)", w -> w.can(work, 0), UNKNOWN);
        }
        WeekOrders w = planned(Bench.two(), "a0;b0;c0;d0;e0;f0;");
        can(w, 6, 0, UNKNOWN);
        can(w, -1, 0, UNKNOWN);
    }

    static void promise15_withoutAPlanAllAreUnknown() {
        can(new WeekOrders(), 0, 0, UNKNOWN);
        WeekOrders w = Bench.lively("");
        w.plan();
        can(w, 0, 7, UNKNOWN);
    }

    static void promise15_dates0And9999AreTold() {
        WeekOrders w = planned(Bench.one("abcdefgh", 0), "a0;h0;");
        can(w, 0, 0, 1);
        can(w, 1, 9999, 1);
        can(w, 0, 9999, 0);
    }

    static void promise15_datesMinus1And10000AreOutside() {
        for (int date : BAD_DATES) {
            Bench.refused("can(0, " + date + ")", w -> w.can(0, date), OUTSIDE);
        }
    }

    static void promise15_unknownAheadOfOutside() {
        for (int work : BAD_WORKS) {
            Bench.refused("can(" + work + ", -1)", w -> w.can(work, -1), UNKNOWN);
            Bench.refused("can(" + work + ", 10000)", w -> w.can(work, 10000), UNKNOWN);
        }
    }

    static void promise15_allItsPeopleMustHaveItsDay() {
        WeekOrders w = planned(Bench.sixAlike(), "a012345;a0;");
        can(w, 0, 7, 1);
        can(w, 0, 8, 0);
        Bench.born(w, 5, "bcdefga", 0);
        can(w, 0, 7, 0);
        can(w, 1, 7, 1);
    }

    static void promise15_allItsPeopleMustBeThere() {
        WeekOrders w = planned(Bench.sixAlike(), "a012345;");
        w.exile(0);
        can(w, 0, 7, 0);
        can(planned(new WeekOrders(), "a0;"), 0, 0, 0);
    }

    // ---- 16 month

    private static void month(WeekOrders w, int date, int most, int... dates) {
        Bench.due("month(" + date + ", -1)", w.month(date, -1), most);
        for (int work = 0; work < dates.length; work++) {
            Bench.due("month(" + date + ", " + work + ")", w.month(date, work), dates[work]);
        }
    }

    static void promise16_dates0And9970AreTaken() {
        WeekOrders w = planned(Bench.one("abcdefgh", 0), "a0;h0;");
        month(w, 0, 2, 0, 7);
        month(w, 9970, 2, 9976, 9975);
    }

    static void promise16_datesMinus1And9971AreOutside() {
        for (int date : Bench.outside(0, 9970)) {
            Bench.refused("month(" + date + ", -1)", w -> w.month(date, -1), OUTSIDE);
            Bench.refused("month(" + date + ", 0)", w -> w.month(date, 0), OUTSIDE);
        }
        Bench.refused("month(9999, 0)", w -> w.month(9999, 0), OUTSIDE);
    }

    static void promise16_worksMinus2AndBeyondTheLastAreUnknown() {
        for (int work : BAD_WORKS) {
            if (work != -1) {
                Bench.refused("month(0, " + work + ")", w -> w.month(0, work), UNKNOWN);
            }
        }
    }

    static void promise16_unknownAheadOfOutside() {
        for (int work : new int[] {-2, 3, Integer.MIN_VALUE, Integer.MAX_VALUE}) {
            Bench.refused("month(-1, " + work + ")", w -> w.month(-1, work), UNKNOWN);
            Bench.refused("month(9971, " + work + ")", w -> w.month(9971, work), UNKNOWN);
        }
    }

    static void promise16_withoutAPlanNothingIsDone() {
        WeekOrders w = Bench.two();
        month(w, 0, 0);
        month(w, 9970, 0);
        Bench.due("month(0, 0)", w.month(0, 0), UNKNOWN);
        Bench.due("month(9971, -1)", w.month(9971, -1), OUTSIDE);
    }

    static void promise16_theFirstOf30DatesCounts() {
        // Both have a on dates 7, 42, 77 and so on.
        month(planned(Bench.two(), "a01;"), 7, 1, 7);
        month(planned(Bench.two(), "a01;"), 8, 0, NONE);
    }

    static void promise16_the30thDateCountsAndThe31stDoesNot() {
        month(planned(Bench.two(), "a01;"), 13, 1, 42);
        month(planned(Bench.two(), "a01;"), 12, 0, NONE);
    }

    static void promise16_date9999IsTheLastOfTheLastMonth() {
        WeekOrders w = Bench.one("abcdefg", 3);
        Bench.born(w, 1, "abcde", 4);
        planned(w, "a01;");
        month(w, 9970, 1, 9999);
        month(w, 9969, 0, NONE);
    }

    static void promise16_asTheVeryFirstCall() {
        Bench.due("month(0, 0)", planned(Bench.one("abcde", 0), "a0;").month(0, 0), 0);
        Bench.due("month(0, 1)", planned(Bench.one("abcde", 0), "b0;a0;").month(0, 1), 0);
        Bench.due("month(0, -1)", planned(Bench.one("abcde", 0), "a0;").month(0, -1), 1);
    }

    static void promise16_noWorkOfAnOldPlan() {
        WeekOrders w = planned(Bench.two(), "a0;a0;a0;a0;a0;a0;");
        month(w, 0, 5, 0, 7, 14, 21, 28, NONE);
        month(planned(w, "a01;"), 0, 1, 7);
        Bench.due("month(0, 1)", w.month(0, 1), UNKNOWN);
        Bench.due("can(1, 0)", w.can(1, 0), UNKNOWN);
    }

    static void promise16_eachWorkOnceAtMost() {
        month(planned(Bench.one("abcde", 0), "a0;"), 0, 1, 0);
        month(planned(Bench.one("abcde", 0), "a0;b0;"), 1, 2, 5, 1);
    }

    static void promise16_noPersonHasTwoWorksOnOneDate() {
        month(planned(Bench.two(), "a01;a01;"), 0, 1, 7, NONE);
        month(planned(Bench.two(), "a0;a0;"), 0, 2, 0, 7);
        month(planned(Bench.two(), "a01;a1;"), 3, 2, 7, 12);
    }

    static void promise16_twoOfDifferentPeopleOnOneDate() {
        month(planned(Bench.sixAlike(), "a01;a23;a45;"), 0, 3, 0, 0, 0);
        month(planned(Bench.sixAlike(), "a05;a15;a25;a34;a34;a34;"), 0, 6, 0, 7, 14, 0, 7, 14);
    }

    static void promise16_sixWorksAndFiveDates() {
        month(planned(Bench.one("abcdefg", 0), "a0;a0;a0;a0;a0;a0;"), 0, 5, 0, 7, 14, 21, 28, NONE);
        month(planned(Bench.one("abcdefg", 0), "a0;a0;a0;a0;a0;a0;"), 1, 4, 7, 14, 21, 28, NONE, NONE);
    }

    static void promise16_theSixthDateIfFiveAreTaken() {
        // The first could be done on 0, 5, 10, 15 and 20 too, but these are the only dates of the five others.
        WeekOrders w = Bench.one("abcde", 0);
        int[] births = {0, 5, 2, 7, 4};
        for (int i = 0; i < 5; i++) {
            Bench.born(w, 1 + i, "abcdefgh", births[i]);
        }
        planned(w, "a0;a01;a02;a03;a04;a05;");
        month(w, 0, 6, 25, 0, 5, 10, 15, 20);
    }

    static void promise16_theMostAheadOfTheFirstWork() {
        WeekOrders w = Bench.two();
        Bench.born(w, 2, "abcdefg", 0);
        Bench.born(w, 3, "abcde", 2);
        month(planned(w, "a0123;a01;a23;"), 0, 2, NONE, 7, 7);
    }

    static void promise16_theFirstWorkDoneRatherThanNot() {
        month(planned(Bench.two(), "a01;b0;a01;"), 1, 2, 7, 1, NONE);
        month(planned(Bench.two(), "h0;a01;a01;"), 0, 1, NONE, 7, NONE);
    }

    static void promise16_theFirstWorkAsEarlyAsCanBeThenTheSecond() {
        month(planned(Bench.two(), "a0;a0;a0;"), 0, 3, 0, 7, 14);
        month(planned(Bench.two(), "a0;a01;a0;"), 7, 3, 14, 7, 21);
        month(planned(Bench.two(), "a01;a0;a0;"), 7, 3, 7, 14, 21);
    }

    static void promise16_workMinus1OfWorksThatNobodyCanDo() {
        month(planned(Bench.two(), "h0;a2;a0123;"), 0, 0, NONE, NONE, NONE);
    }

    // ---- 17 barred

    static void promise17_withoutAPlanNone() {
        Bench.due("barred()", Bench.two().barred(), 0);
        Bench.due("barred() with nobody", new WeekOrders().barred(), 0);
    }

    static void promise17_fromNoneToAllSix() {
        Bench.due("none", planned(Bench.one("abcdefgh", 0), "a0;b0;c0;f0;g0;h0;").barred(), 0);
        Bench.due("all", planned(Bench.one("abcdefgh", 0), "a1;b2;c3;d4;e5;f01;").barred(), 63);
        Bench.due("the last", planned(Bench.one("abcde", 0), "a0;b0;c0;d0;e0;f0;").barred(), 32);
        Bench.due("the first", planned(Bench.one("abcde", 0), "h0;b0;c0;d0;e0;a0;").barred(), 1);
    }

    static void promise17_onDate0OnlyIsNotBarred() {
        Bench.due("barred()", planned(Bench.rareFour(0), "a0123;").barred(), 0);
    }

    static void promise17_onDate839OnlyIsNotBarred() {
        Bench.due("barred()", planned(Bench.rareFourLast(), "a0123;").barred(), 0);
    }

    static void promise17_noWorkOfAnOldPlan() {
        WeekOrders w = planned(Bench.two(), "h0;h0;h0;h0;h0;h0;");
        Bench.due("barred()", w.barred(), 63);
        Bench.due("barred() by a new plan", planned(w, "a0;h0;").barred(), 2);
        w.plan();
        Bench.due("barred() by none", w.barred(), 0);
    }

    static void promise17_whoIsNotThereBars() {
        WeekOrders w = planned(Bench.two(), "a01;a0;a1;");
        Bench.due("barred()", w.barred(), 0);
        w.exile(1);
        Bench.due("barred() when one went", w.barred(), 5);
        w.exile(0);
        Bench.due("barred() when all went", w.barred(), 7);
    }

    static void promise17_noDateOfAllThoughAnyoneHasItsDay() {
        Bench.due("barred()", planned(Bench.sixApart(), "a0;a5;a05;").barred(), 4);
    }

    // ---- 18 why

    private static void why(WeekOrders w, int work, int due) {
        Bench.due("why(" + work + ")", w.why(work), due);
    }

    static void promise18_worksMinus1AndBeyondTheLastAreUnknown() {
        for (int work : BAD_WORKS) {
            Bench.refused("why(" + work + ")", w -> w.why(work), UNKNOWN);
        }
        why(new WeekOrders(), 0, UNKNOWN);
        why(planned(Bench.two(), "h0;h0;h0;h0;h0;h0;"), 6, UNKNOWN);
        why(planned(Bench.two(), "h0;h0;h0;h0;h0;h0;"), 5, 0);
    }

    static void promise18_whatIsNotBarredIsNo() {
        for (int work = 0; work < 3; work++) {
            int asked = work;
            Bench.refused("why(" + asked + ")", w -> w.why(asked), NO);
        }
        why(planned(Bench.rareFour(0), "a0123;"), 0, NO);
        why(planned(Bench.rareFourLast(), "a0123;"), 0, NO);
    }

    static void promise18_whoIsNotThereIsState() {
        Bench.refused("why(0)", () -> planned(Bench.two(), "a012;"), w -> w.why(0), STATE);
        Bench.refused("why(0)", () -> planned(Bench.two(), "a5;"), w -> w.why(0), STATE);
        Bench.refused("why(0)", () -> planned(new WeekOrders(), "a0;"), w -> w.why(0), STATE);
    }

    static void promise18_stateAlsoWhereAnotherNeverHasItsDay() {
        Bench.refused("why(0)", () -> planned(Bench.two(), "h012;"), w -> w.why(0), STATE);
        WeekOrders w = planned(Bench.two(), "h01;");
        why(w, 0, 0);
        w.exile(1);
        why(w, 0, STATE);
    }

    static void promise18_theLeastWhoNeverHasItsDay() {
        WeekOrders w = Bench.sixAlike();
        why(planned(w, "h012345;h12345;h5;"), 0, 0);
        why(w, 1, 11);
        why(w, 2, 55);
        Bench.born(w, 0, "hgfed", 0);
        Bench.born(w, 1, "hgfed", 0);
        why(w, 0, 22);
    }

    static void promise18_whoNeverHasItsDayAheadOfTwo() {
        WeekOrders w = Bench.sixApart();
        Bench.born(w, 5, "bcdef", 0);
        why(planned(w, "a015;"), 0, 55);
    }

    static void promise18_theFirstTwoOfSeveral() {
        WeekOrders w = planned(Bench.sixApart(), "a012345;a12;a45;a05;a25;");
        why(w, 0, 1);
        why(w, 1, 12);
        why(w, 2, 45);
        why(w, 3, 5);
        why(w, 4, 25);
        Bench.born(w, 1, "abcdefg", 0);
        Bench.born(w, 2, "abcdefg", 0);
        why(w, 0, 3);
        Bench.born(w, 0, "abcdefgh", 0);
        why(w, 0, 13);
    }

    // ---- 19 common

    private static void common(WeekOrders w, int set, int date, int many, int which) {
        Bench.due("common(" + set + ", " + date + ", 0)", w.common(set, date, 0), many);
        Bench.due("common(" + set + ", " + date + ", 1)", w.common(set, date, 1), which);
    }

    static void promise19_dates0And9990AreTaken() {
        common(Bench.two(), 3, 0, 1, 0);
        common(Bench.two(), 3, 9990, 1, 1);
    }

    static void promise19_datesMinus1And9991AreOutside() {
        for (int date : Bench.outside(0, 9990)) {
            Bench.refused("common(3, " + date + ", 0)", w -> w.common(3, date, 0), OUTSIDE);
        }
        Bench.refused("common(3, 9999, 1)", w -> w.common(3, 9999, 1), OUTSIDE);
    }

    static void promise19_6LaterCountsAnd7LaterDoesNot() {
        // Both have a on date 7.
        common(Bench.two(), 3, 1, 0, 600);
        common(Bench.two(), 3, 0, 1, 0);
    }

    static void promise19_date9996IsTheLastOfAll() {
        WeekOrders w = Bench.one("abcdefg", 0);
        Bench.born(w, 1, "abcde", 1);
        common(w, 3, 9990, 0, 600);
        common(w, 3, 9989, 1, 0);
    }

    static void promise19_theDateItselfCounts() {
        common(Bench.two(), 3, 7, 0, 0);
        common(Bench.two(), 3, 11, 0, 4);
    }

    static void promise19_aSetOfOneNeedsNobody() {
        for (int person = 0; person < 6; person++) {
            common(Bench.sixApart(), 1 << person, 0, 0, person);
        }
        common(Bench.one("hgfed", 0), 1, 0, 0, 7);
    }

    static void promise19_aSetOfAllSix() {
        common(Bench.sixAlike(), 63, 5, 0, 5);
        common(Bench.sixApart(), 63, 5, 5, 0);
    }

    static void promise19_anEmptySetIsOutside() {
        Bench.refused("common(0, 0, 0)", w -> w.common(0, 0, 0), OUTSIDE);
        Bench.refused("common(0, 0, 0) with nobody", WeekOrders::new, w -> w.common(0, 0, 0), OUTSIDE);
    }

    static void promise19_aSetWithOneWhoIsNotThereIsOutside() {
        for (int set : Bench.BAD_SETS) {
            Bench.refused("common(" + set + ", 0, 0)", w -> w.common(set, 0, 0), OUTSIDE);
        }
        WeekOrders w = Bench.sixAlike();
        Bench.due("common(64, 0, 0)", w.common(64, 0, 0), OUTSIDE);
        Bench.due("common(127, 0, 0)", w.common(127, 0, 0), OUTSIDE);
    }

    static void promise19_whatsMinus1And2AreOutside() {
        for (int what : Bench.outside(0, 1)) {
            Bench.refused("common(1, 0, " + what + ")", w -> w.common(1, 0, what), OUTSIDE);
        }
    }

    static void promise19_theFewestAheadOfTheEarliest() {
        // Two of the three have c on date 2; ahead of it each has a day of his own.
        WeekOrders w = Bench.two();
        Bench.born(w, 2, "hacdefg", 0);
        common(w, 7, 0, 1, 202);
    }

    static void promise19_theEarliestAheadOfTheLeastDay() {
        // All have d on date 3, e on 4, ... and a on 7.
        common(Bench.sixAlike(), 63, 3, 0, 3);
        common(Bench.sixAlike(), 63, 6, 0, 6);
    }

    static void promise19_theLeastDayOfOneDate() {
        // On date 0: g, d, d, b, b, b.
        WeekOrders w = Bench.one("gabcdef", 0);
        Bench.born(w, 1, "defgabc", 0);
        Bench.born(w, 2, "defgabc", 0);
        common(w, 7, 0, 1, 3);
        Bench.born(w, 3, "bcdefga", 0);
        common(w, 15, 0, 2, 3);
        Bench.born(w, 4, "bcdefga", 0);
        common(w, 31, 0, 3, 1);
        common(w, 9, 0, 1, 1);
    }

    static void promise19_anotherWhoIsNotOfTheSetMakesItNoCheaper() {
        WeekOrders w = Bench.one("bcdefga", 0);
        Bench.born(w, 1, "cdefgab", 0);
        Bench.born(w, 2, "abcdefg", 0);
        Bench.born(w, 3, "abcdefg", 0);
        common(w, 3, 0, 1, 1);
        common(w, 1, 0, 0, 1);
    }

    // ---- 20 wedding

    private static void wedding(WeekOrders w, int person, int other, int cost, int how) {
        String call = "wedding(" + person + ", " + other;
        Bench.due(call + ", 0)", w.wedding(person, other, 0), cost);
        Bench.due(call + ", 1)", w.wedding(person, other, 1), how);
    }

    private static WeekOrders pair(String order) {
        WeekOrders w = Bench.one("abcdefg", 0);
        Bench.born(w, 1, order, 0);
        return w;
    }

    static void promise20_oneAndTheSameIsUnknown() {
        for (int person = 0; person < 3; person++) {
            int same = person;
            Bench.refused("wedding(" + same + ", " + same + ", 0)", w -> w.wedding(same, same, 0), UNKNOWN);
        }
    }

    static void promise20_whoIsNotThereIsUnknown() {
        for (int person : Bench.ABSENT) {
            Bench.refused("wedding(" + person + ", 0, 0)", w -> w.wedding(person, 0, 0), UNKNOWN);
            Bench.refused("wedding(0, " + person + ", 0)", w -> w.wedding(0, person, 0), UNKNOWN);
            Bench.refused("wedding(" + person + ", " + person + ", 0)", w -> w.wedding(person, person, 0), UNKNOWN);
        }
    }

    static void promise20_whatsMinus1And2AreOutside() {
        for (int what : Bench.outside(0, 1)) {
            Bench.refused("wedding(0, 1, " + what + ")", w -> w.wedding(0, 1, what), OUTSIDE);
        }
    }

    static void promise20_unknownAheadOfOutside() {
        for (int what : new int[] {-1, 2}) {
            Bench.refused("wedding(3, 0, " + what + ")", w -> w.wedding(3, 0, what), UNKNOWN);
            Bench.refused("wedding(0, 6, " + what + ")", w -> w.wedding(0, 6, what), UNKNOWN);
            Bench.refused("wedding(0, -1, " + what + ")", w -> w.wedding(0, -1, what), UNKNOWN);
            Bench.refused("wedding(1, 1, " + what + ")", w -> w.wedding(1, 1, what), UNKNOWN);
        }
    }

    static void promise20_4SharedSuitAnd3DoNot() {
        // One day on dates 0, 1, 2 and 3; on 0, 1 and 2.
        wedding(pair("abcdh"), 0, 1, 0, 0);
        wedding(pair("abcfh"), 0, 1, 25, 1);
    }

    static void promise20_date0IsTheFirstOfThe28() {
        // One day on dates 0, 1, 3 and 4; on 1, 3 and 9, and then on 32.
        wedding(pair("abhde"), 0, 1, 0, 0);
        wedding(pair("hbedc"), 0, 1, 25, 1);
    }

    static void promise20_date27IsTheLastOfThe28() {
        // One day on dates 1, 4, 5 and 27, and on 28; on 1, 4 and 5, and on 28.
        wedding(pair("fbgae"), 0, 1, 0, 0);
        wedding(pair("fbhae"), 0, 1, 25, 1);
    }

    static void promise20_fromNoCostTo28() {
        wedding(Bench.sixAlike(), 0, 5, 0, 0);
        wedding(Bench.sixApart(), 0, 5, 28, 1);
        wedding(Bench.sixApart(), 5, 0, 28, 1);
    }

    static void promise20_theFirstOfSeveralWaysOfOneCost() {
        // The third has the first one's day on 12 of the 28 dates, the second one's on the other 16.
        WeekOrders w = pair("badcfeh");
        Bench.born(w, 2, "abdcfeg", 0);
        wedding(w, 0, 1, 28, 1);
        wedding(w, 1, 0, 28, 1);
    }

    static void promise20_nobodyChangesByIt() {
        WeekOrders w = pair("badcfeh");
        wedding(w, 0, 1, 28, 1);
        Bench.due("shared(0, 1)", w.shared(0, 1), 0);
        Bench.due("told(200)", w.told(200), 1);
    }

    public static void main(String[] args) {
        Bench.run(BoundsWorksTests.class, 15, 20);
    }
}
