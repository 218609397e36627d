/** The bounds of promises 8 to 14: days. What is due was worked out by hand. */
public final class BoundsDaysTests {
    private static final int NONE = Bench.NONE, UNKNOWN = Bench.UNKNOWN, OUTSIDE = Bench.OUTSIDE;
    private static final int[] BAD_DAYS = Bench.outside(0, 7);
    private static final int[] BAD_DATES = Bench.outside(0, 9999);

    private static void today(WeekOrders w, int person, int date, int day) {
        Bench.due("today(" + person + ", " + date + ")", w.today(person, date), day);
    }

    // ---- 8 today

    static void promise08_dates0And9999AreTold() {
        WeekOrders w = Bench.one("abcdefgh", 0);
        today(w, 0, 0, 0);
        today(w, 0, 9999, 7);
    }

    static void promise08_datesMinus1And10000AreOutside() {
        for (int date : BAD_DATES) {
            Bench.refused("today(0, " + date + ")", w -> w.today(0, date), OUTSIDE);
        }
    }

    static void promise08_people0And5AreTold() {
        WeekOrders w = Bench.sixApart();
        today(w, 0, 0, 0);
        today(w, 5, 0, 5);
    }

    static void promise08_whoIsNotThereIsUnknown() {
        for (int person : Bench.ABSENT) {
            Bench.refused("today(" + person + ", 0)", w -> w.today(person, 0), UNKNOWN);
        }
    }

    static void promise08_unknownAheadOfOutside() {
        for (int person : Bench.ABSENT) {
            Bench.refused("today(" + person + ", -1)", w -> w.today(person, -1), UNKNOWN);
            Bench.refused("today(" + person + ", 10000)", w -> w.today(person, 10000), UNKNOWN);
        }
    }

    static void promise08_birthItselfIsPlace0() {
        for (int birth : new int[] {0, 1, 50, 99}) {
            WeekOrders w = Bench.one("hgfed", birth);
            today(w, 0, birth, 7);
            today(w, 0, birth + 4, 3);
        }
    }

    static void promise08_behindTheLastPlaceComesTheFirst() {
        for (int size = 5; size <= 8; size++) {
            WeekOrders w = Bench.one("abcdefgh".substring(0, size), 10);
            today(w, 0, 10 + size - 1, size - 1);
            today(w, 0, 10 + size, 0);
            today(w, 0, 10 + 2 * size - 1, size - 1);
            today(w, 0, 10 + 2 * size, 0);
        }
    }

    static void promise08_aheadOfBirthRoundTheOtherWay() {
        for (int size = 5; size <= 8; size++) {
            WeekOrders w = Bench.one("abcdefgh".substring(0, size), 10);
            today(w, 0, 9, size - 1);
            today(w, 0, 10 - size + 1, 1);
            today(w, 0, 10 - size, 0);
        }
    }

    static void promise08_fromBirth99ToDates0And9999() {
        int[] first = {1, 3, 6, 5};
        int[] last = {0, 0, 2, 4};
        for (int size = 5; size <= 8; size++) {
            WeekOrders w = Bench.one("abcdefgh".substring(0, size), 99);
            today(w, 0, 0, first[size - 5]);
            today(w, 0, 9999, last[size - 5]);
        }
    }

    static void promise08_dayHOfOneAlone() {
        WeekOrders w = Bench.one("abcdh", 0);
        Bench.born(w, 1, "abcde", 0);
        today(w, 0, 4, 7);
        today(w, 1, 4, 4);
    }

    // ---- 9 same

    static void promise09_days0And7AreTold() {
        WeekOrders w = Bench.one("abcdefgh", 0);
        Bench.due("same(0, 0)", w.same(0, 0), 1);
        Bench.due("same(7, 7)", w.same(7, 7), 1);
        Bench.due("same(7, 0)", w.same(7, 0), 0);
    }

    static void promise09_daysMinus1And8AreUnknown() {
        for (int day : BAD_DAYS) {
            Bench.refused("same(" + day + ", 0)", w -> w.same(day, 0), UNKNOWN);
        }
        Bench.refused("same(NONE, 0)", w -> w.same(NONE, 0), UNKNOWN);
    }

    static void promise09_dates0And9999AreTold() {
        WeekOrders w = Bench.two();
        Bench.due("same(0, 0)", w.same(0, 0), 1);
        Bench.due("same(3, 9999)", w.same(3, 9999), 1);
        Bench.due("same(2, 9999)", w.same(2, 9999), 2);
    }

    static void promise09_datesMinus1And10000AreOutside() {
        for (int date : BAD_DATES) {
            Bench.refused("same(0, " + date + ")", w -> w.same(0, date), OUTSIDE);
        }
    }

    static void promise09_unknownAheadOfOutside() {
        for (int day : BAD_DAYS) {
            Bench.refused("same(" + day + ", -1)", w -> w.same(day, -1), UNKNOWN);
            Bench.refused("same(" + day + ", 10000)", w -> w.same(day, 10000), UNKNOWN);
        }
    }

    static void promise09_fromNobodyToAllSix() {
        WeekOrders w = Bench.sixAlike();
        Bench.due("same(0, 0)", w.same(0, 0), 63);
        Bench.due("same(1, 0)", w.same(1, 0), 0);
        Bench.due("same(0, 0) with nobody", new WeekOrders().same(0, 0), 0);
    }

    static void promise09_whoWentIsNotAmongThem() {
        WeekOrders w = Bench.sixAlike();
        w.exile(0);
        Bench.due("same(0, 0)", w.same(0, 0), 62);
        w.exile(5);
        Bench.due("same(0, 0)", w.same(0, 0), 30);
    }

    // ---- 10 next

    private static void next(WeekOrders w, int day, int date, int due) {
        Bench.due("next(0, " + day + ", " + date + ")", w.next(0, day, date), due);
    }

    static void promise10_theDateItselfIsTheFirst() {
        WeekOrders w = Bench.one("abcdefgh", 0);
        next(w, 0, 0, 0);
        next(w, 7, 7, 7);
    }

    static void promise10_sevenLaterIsTheLongestWait() {
        WeekOrders w = Bench.one("abcdefgh", 0);
        next(w, 7, 0, 7);
        next(w, 7, 8, 15);
        next(w, 0, 1, 8);
    }

    static void promise10_date9999IsStillTold() {
        WeekOrders w = Bench.one("abcdefgh", 0);
        next(w, 7, 9999, 9999);
        next(w, 7, 9998, 9999);
        next(w, 7, 9992, 9999);
    }

    static void promise10_date10000IsNone() {
        WeekOrders w = Bench.one("abcdefgh", 0);
        next(w, 0, 9999, NONE);
        next(w, 0, 9993, NONE);
        next(w, 0, 9992, 9992);
    }

    static void promise10_aDayThatHeNeverHasIsNone() {
        WeekOrders w = Bench.one("abcde", 0);
        next(w, 5, 0, NONE);
        next(w, 7, 0, NONE);
        next(w, 7, 9999, NONE);
    }

    static void promise10_aheadOfBirth() {
        WeekOrders w = Bench.one("abcdefgh", 99);
        next(w, 0, 0, 3);
        next(w, 5, 0, 0);
        next(w, 4, 0, 7);
    }

    static void promise10_whoIsNotThereIsUnknown() {
        for (int person : Bench.ABSENT) {
            Bench.refused("next(" + person + ", 0, 0)", w -> w.next(person, 0, 0), UNKNOWN);
        }
    }

    static void promise10_daysMinus1And8AreUnknown() {
        for (int day : BAD_DAYS) {
            Bench.refused("next(0, " + day + ", 0)", w -> w.next(0, day, 0), UNKNOWN);
        }
        Bench.refused("next(0, NONE, 0)", w -> w.next(0, NONE, 0), UNKNOWN);
    }

    static void promise10_datesMinus1And10000AreOutside() {
        for (int date : BAD_DATES) {
            Bench.refused("next(0, 0, " + date + ")", w -> w.next(0, 0, date), OUTSIDE);
        }
    }

    static void promise10_datesAreOutsideAlsoForADayThatHeNeverHas() {
        for (int date : new int[] {-1, 10000}) {
            Bench.refused("next(1, 7, " + date + ")", w -> w.next(1, 7, date), OUTSIDE);
        }
    }

    static void promise10_unknownAheadOfOutside() {
        for (int date : new int[] {-1, 10000}) {
            Bench.refused("next(3, 0, " + date + ")", w -> w.next(3, 0, date), UNKNOWN);
            Bench.refused("next(6, 0, " + date + ")", w -> w.next(6, 0, date), UNKNOWN);
            Bench.refused("next(0, 8, " + date + ")", w -> w.next(0, 8, date), UNKNOWN);
            Bench.refused("next(0, -1, " + date + ")", w -> w.next(0, -1, date), UNKNOWN);
            Bench.refused("next(-1, -1, " + date + ")", w -> w.next(-1, -1, date), UNKNOWN);
        }
    }

    // ---- 11 meet

    private static void meet(WeekOrders w, int set, int date, int when, int day) {
        Bench.due("meet(" + set + ", " + date + ", 0)", w.meet(set, date, 0), when);
        Bench.due("meet(" + set + ", " + date + ", 1)", w.meet(set, date, 1), day);
    }

    static void promise11_theDateItselfIsTheFirst() {
        meet(Bench.two(), 3, 7, 7, 0);
        meet(Bench.two(), 3, 11, 11, 4);
        meet(Bench.two(), 3, 12, 42, 0);
        meet(Bench.rareFour(0), 15, 0, 0, 0);
    }

    static void promise11_839LaterIsStillTold() {
        meet(Bench.rareFourLast(), 15, 0, 839, 0);
        meet(Bench.rareFour(0), 15, 1, 840, 0);
        meet(Bench.rareFour(99), 15, 100, 939, 0);
    }

    static void promise11_whoDoNotMeetWithin840DatesNeverDo() {
        meet(Bench.sixApart(), 3, 0, NONE, NONE);
        meet(Bench.sixApart(), 63, 9999, NONE, NONE);
        WeekOrders w = Bench.rareFour(0);
        Bench.born(w, 4, "bcdea", 0);
        meet(w, 31, 0, NONE, NONE);
    }

    static void promise11_beyond9999Too() {
        meet(Bench.two(), 3, 9999, 10017, 0);
        meet(Bench.rareFour(0), 15, 9241, 10080, 0);
        meet(Bench.rareFour(0), 15, 9999, 10080, 0);
        meet(Bench.rareFour(79), 15, 9160, 9319, 0);
        meet(Bench.rareFour(79), 15, 9999, 10159, 0);
    }

    static void promise11_dates0And9999AreTaken() {
        meet(Bench.one("abcdefgh", 0), 1, 0, 0, 0);
        meet(Bench.one("abcdefgh", 0), 1, 9999, 9999, 7);
    }

    static void promise11_datesMinus1And10000AreOutside() {
        for (int date : BAD_DATES) {
            Bench.refused("meet(1, " + date + ", 0)", w -> w.meet(1, date, 0), OUTSIDE);
        }
    }

    static void promise11_aSetOfOneAndOfAllSix() {
        for (int person = 0; person < 6; person++) {
            meet(Bench.sixApart(), 1 << person, 0, 0, person);
        }
        meet(Bench.sixAlike(), 63, 8, 8, 1);
    }

    static void promise11_anEmptySetIsOutside() {
        Bench.refused("meet(0, 0, 0)", w -> w.meet(0, 0, 0), OUTSIDE);
        Bench.refused("meet(0, 0, 0) with nobody", WeekOrders::new, w -> w.meet(0, 0, 0), OUTSIDE);
    }

    static void promise11_aSetWithOneWhoIsNotThereIsOutside() {
        for (int set : Bench.BAD_SETS) {
            Bench.refused("meet(" + set + ", 0, 0)", w -> w.meet(set, 0, 0), OUTSIDE);
        }
        WeekOrders w = Bench.sixAlike();
        Bench.due("meet(64, 0, 0)", w.meet(64, 0, 0), OUTSIDE);
        Bench.due("meet(127, 0, 0)", w.meet(127, 0, 0), OUTSIDE);
        w.exile(5);
        Bench.due("meet(63, 0, 0) when one went", w.meet(63, 0, 0), OUTSIDE);
        Bench.due("meet(31, 0, 0) when one went", w.meet(31, 0, 0), 0);
    }

    static void promise11_whatsMinus1And2AreOutside() {
        for (int what : Bench.outside(0, 1)) {
            Bench.refused("meet(1, 0, " + what + ")", w -> w.meet(1, 0, what), OUTSIDE);
        }
    }

    // ---- 12 shared

    static void promise12_from0To840() {
        Bench.due("shared(0, 5) of six apart", Bench.sixApart().shared(0, 5), 0);
        Bench.due("shared(0, 5) of six alike", Bench.sixAlike().shared(0, 5), 840);
        Bench.due("shared(0, 1) of two", Bench.two().shared(0, 1), 120);
        Bench.due("shared(1, 0) of two", Bench.two().shared(1, 0), 120);
    }

    static void promise12_oneAndTheSameIsUnknown() {
        for (int person = 0; person < 3; person++) {
            int same = person;
            Bench.refused("shared(" + same + ", " + same + ")", w -> w.shared(same, same), UNKNOWN);
        }
    }

    static void promise12_whoIsNotThereIsUnknown() {
        for (int person : Bench.ABSENT) {
            Bench.refused("shared(" + person + ", 0)", w -> w.shared(person, 0), UNKNOWN);
            Bench.refused("shared(0, " + person + ")", w -> w.shared(0, person), UNKNOWN);
            Bench.refused("shared(" + person + ", " + person + ")", w -> w.shared(person, person), UNKNOWN);
        }
    }

    // ---- 13 never

    static void promise13_withFewerThanTwoPeopleThereAreNone() {
        for (WeekOrders w : new WeekOrders[] {new WeekOrders(), Bench.one("abcde", 0)}) {
            Bench.due("never(-1)", w.never(-1), 0);
            Bench.due("never(0)", w.never(0), NONE);
        }
    }

    static void promise13_allFifteenRising() {
        WeekOrders w = Bench.sixApart();
        Bench.due("never(-1)", w.never(-1), 15);
        int[] due = {1, 2, 3, 4, 5, 12, 13, 14, 15, 23, 24, 25, 34, 35, 45};
        for (int i = 0; i < due.length; i++) {
            Bench.due("never(" + i + ")", w.never(i), due[i]);
        }
    }

    static void promise13_beyondTheLastIsNone() {
        for (int i : new int[] {15, 16, 32, 256, 65536, Integer.MAX_VALUE}) {
            Bench.due("never(" + i + ")", Bench.sixApart().never(i), NONE);
        }
        WeekOrders w = Bench.two();
        Bench.born(w, 2, "bcdefga", 0);
        Bench.due("never(-1) of one two", w.never(-1), 1);
        Bench.due("never(0) of one two", w.never(0), 2);
        Bench.due("never(1) of one two", w.never(1), NONE);
    }

    static void promise13_belowMinus1IsNone() {
        for (int i : new int[] {-2, -3, -6, -256, Integer.MIN_VALUE}) {
            Bench.due("never(" + i + ")", Bench.sixApart().never(i), NONE);
            Bench.due("never(" + i + ") of none", Bench.two().never(i), NONE);
        }
    }

    static void promise13_onceIn24DatesIsNotNever() {
        // All other days are on even places of the one order and on odd ones of the other.
        WeekOrders w = Bench.one("abcdef", 0);
        Bench.born(w, 1, "badcgehf", 0);
        Bench.due("shared(0, 1)", w.shared(0, 1), 35);
        Bench.due("never(-1)", w.never(-1), 0);
        Bench.due("never(0)", w.never(0), NONE);
        Bench.born(w, 1, "badcfehg", 0);
        Bench.due("shared(0, 1) then", w.shared(0, 1), 0);
        Bench.due("never(-1) then", w.never(-1), 1);
        Bench.due("never(0) then", w.never(0), 1);
    }

    static void promise13_whoWentIsNotAmongThem() {
        WeekOrders w = Bench.sixApart();
        w.exile(0);
        Bench.due("never(-1)", w.never(-1), 10);
        Bench.due("never(0)", w.never(0), 12);
        Bench.due("never(9)", w.never(9), 45);
        Bench.due("never(10)", w.never(10), NONE);
    }

    // ---- 14 market

    private static void market(WeekOrders w, int day, int m, int count, int first, int row) {
        Bench.due("market(" + day + ", " + m + ", 0)", w.market(day, m, 0), count);
        Bench.due("market(" + day + ", " + m + ", 1)", w.market(day, m, 1), first);
        Bench.due("market(" + day + ", " + m + ", 2)", w.market(day, m, 2), row);
    }

    static void promise14_days0And7AreTold() {
        market(Bench.one("abcdefgh", 0), 0, 1, 105, 0, 7);
        market(Bench.one("abcdefgh", 0), 7, 1, 105, 7, 7);
    }

    static void promise14_daysMinus1And8AreUnknown() {
        for (int day : BAD_DAYS) {
            Bench.refused("market(" + day + ", 1, 0)", w -> w.market(day, 1, 0), UNKNOWN);
        }
        Bench.refused("market(NONE, 1, 0)", w -> w.market(NONE, 1, 0), UNKNOWN);
    }

    static void promise14_by1AndBy6() {
        for (int m = 1; m <= 6; m++) {
            market(Bench.sixAlike(), 6, m, 120, 6, 6);
        }
        WeekOrders w = Bench.sixAlike();
        w.exile(3);
        market(w, 6, 5, 120, 6, 6);
        market(w, 6, 6, 0, NONE, 840);
    }

    static void promise14_by0AndBy7AreOutside() {
        for (int m : Bench.outside(1, 6)) {
            Bench.refused("market(0, " + m + ", 0)", w -> w.market(0, m, 0), OUTSIDE);
        }
    }

    static void promise14_whatsMinus1And3AreOutside() {
        for (int what : Bench.outside(0, 2)) {
            Bench.refused("market(0, 1, " + what + ")", w -> w.market(0, 1, what), OUTSIDE);
        }
    }

    static void promise14_unknownAheadOfOutside() {
        for (int day : BAD_DAYS) {
            Bench.refused("market(" + day + ", 0, 0)", w -> w.market(day, 0, 0), UNKNOWN);
            Bench.refused("market(" + day + ", 7, 0)", w -> w.market(day, 7, 0), UNKNOWN);
            Bench.refused("market(" + day + ", 1, 3)", w -> w.market(day, 1, 3), UNKNOWN);
            Bench.refused("market(" + day + ", 1, -1)", w -> w.market(day, 1, -1), UNKNOWN);
        }
    }

    static void promise14_mPeopleAtLeast() {
        WeekOrders w = Bench.two();
        market(w, 0, 2, 24, 7, 34);
        market(w, 0, 1, 264, 0, 4);
        market(w, 0, 3, 0, NONE, 840);
    }

    static void promise14_onDate0Only() {
        market(Bench.rareFour(0), 0, 4, 1, 0, 839);
    }

    static void promise14_onDate839Only() {
        market(Bench.rareFourLast(), 0, 4, 1, 839, 839);
    }

    static void promise14_theRowGoesOnAtItsBeginning() {
        market(Bench.rareFour(50), 0, 4, 1, 50, 839);
        market(Bench.rareFour(99), 0, 4, 1, 99, 839);
    }

    static void promise14_theRowThatGoesOnIsTheLongestOfSeven() {
        // The last of them is on 784: 55 dates behind it and 154 ahead of the first make 209, else 174 is most.
        WeekOrders w = Bench.one("abcde", 84);
        Bench.born(w, 1, "afbghc", 70);
        Bench.born(w, 2, "abdefgh", 77);
        Bench.born(w, 3, "abcdefgh", 93);
        market(w, 0, 3, 7, 154, 209);
    }

    static void promise14_theLongestOfSeveralRows() {
        // Day b is on dates 1, 4, 6, 9, 11 and so on.
        WeekOrders w = Bench.one("abcde", 3);
        Bench.born(w, 1, "bcdef", 1);
        market(w, 1, 1, 336, 1, 2);
        market(Bench.rareFour(0), 0, 3, 16, 0, 119);
    }

    static void promise14_840IfThereIsNone() {
        market(Bench.one("abcde", 0), 5, 1, 0, NONE, 840);
        market(new WeekOrders(), 0, 1, 0, NONE, 840);
        market(new WeekOrders(), 7, 6, 0, NONE, 840);
    }

    static void promise14_0IfEachDateIsOne() {
        WeekOrders w = new WeekOrders();
        for (int person = 0; person < 5; person++) {
            Bench.born(w, person, "abcde", person);
        }
        market(w, 0, 1, 840, 0, 0);
        w.exile(0);
        market(w, 0, 1, 672, 1, 1);
    }

    public static void main(String[] args) {
        Bench.run(BoundsDaysTests.class, 8, 14);
    }
}
