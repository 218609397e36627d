/** The bounds of promises 27 to 36: wells, chances, years. What is due was worked out by hand. */
public final class BoundsWellsTests {
    private static final int NONE = Bench.NONE, UNKNOWN = Bench.UNKNOWN, OUTSIDE = Bench.OUTSIDE,
        STATE = Bench.STATE, FULL = Bench.FULL;
    private static final long LOST = Bench.LOST;
    private static final int[] BAD_DAYS = Bench.outside(0, 7);
    private static final int[] BAD_DATES = Bench.outside(0, 9999);
    private static final int[] BAD_BITS = Bench.outside(0, 1);

    // ---- 27 seen

    static void promise27_dates0And9999AreTaken() {
        WeekOrders w = Bench.one("abcdefgh", 0);
        Bench.due("seen(0, 1)", w.seen(0, 1), 1);
        Bench.due("whose day it was", w.whose(0), 0);
        w.forget();
        Bench.due("seen(9999, 1)", w.seen(9999, 1), 1);
        Bench.due("whose day it was", w.whose(0), 7);
    }

    static void promise27_datesMinus1And10000AreOutside() {
        for (int date : BAD_DATES) {
            Bench.refused("seen(" + date + ", 0)", w -> w.seen(date, 0), OUTSIDE);
            Bench.refused("seen(" + date + ", 1)", w -> w.seen(date, 1), OUTSIDE);
        }
    }

    static void promise27_shut0And1AreTaken() {
        WeekOrders w = Bench.one("abcdefgh", 0);
        Bench.due("seen(0, 0)", w.seen(0, 0), 1);
        Bench.due("whose(-1)", w.whose(-1), 7);
        Bench.due("seen(1, 1)", w.seen(1, 1), 2);
        Bench.due("whose(-1)", w.whose(-1), 1);
    }

    static void promise27_shutMinus1And2AreOutside() {
        for (int shut : BAD_BITS) {
            Bench.refused("seen(0, " + shut + ")", w -> w.seen(0, shut), OUTSIDE);
        }
    }

    static void promise27_theSixthIsTaken() {
        WeekOrders w = Bench.one("abcdefgh", 0);
        for (int i = 0; i < 6; i++) {
            Bench.due("seen(" + i + ", 0)", w.seen(i, 0), i + 1);
        }
        Bench.due("told(3)", w.told(3), 6);
        Bench.due("whose(-1)", w.whose(-1), 2);
        Bench.due("whose(0)", w.whose(0), 6);
    }

    static void promise27_theSeventhIsFull() {
        Bench.refused("seen(0, 0)", Bench::livelyWithSixSights, w -> w.seen(0, 0), FULL);
        Bench.refused("seen(9999, 1)", Bench::livelyWithSixSights, w -> w.seen(9999, 1), FULL);
    }

    static void promise27_outsideAheadOfFull() {
        for (int date : BAD_DATES) {
            Bench.refused("seen(" + date + ", 0)", Bench::livelyWithSixSights, w -> w.seen(date, 0), OUTSIDE);
        }
        for (int shut : BAD_BITS) {
            Bench.refused("seen(0, " + shut + ")", Bench::livelyWithSixSights, w -> w.seen(0, shut), OUTSIDE);
        }
    }

    static void promise27_oneDateTwiceIsTwoSights() {
        WeekOrders w = Bench.one("abcdefgh", 0);
        Bench.due("seen(0, 1)", w.seen(0, 1), 1);
        Bench.due("seen(0, 1) again", w.seen(0, 1), 2);
        Bench.due("whose(-1)", w.whose(-1), 1);
        Bench.due("seen(0, 0)", w.seen(0, 0), 3);
        Bench.due("whose(-1) of both", w.whose(-1), 0);
    }

    // ---- 28 forget

    static void promise28_from0To6() {
        WeekOrders w = new WeekOrders();
        for (int count = 0; count <= 6; count++) {
            for (int i = 0; i < count; i++) {
                w.seen(i, 0);
            }
            Bench.due("forget() of " + count, w.forget(), count);
            Bench.due("forget() again", w.forget(), 0);
            Bench.due("told(3)", w.told(3), 0);
        }
    }

    static void promise28_onlyTheSightsGo() {
        WeekOrders w = Bench.lively();
        Bench.due("forget()", w.forget(), 2);
        Bench.due("signs", w.told(0), 5);
        Bench.due("people", w.told(1), 7);
        Bench.due("works", w.told(2), 3);
        Bench.due("restore(0)", w.restore(0), 1);
        Bench.due("sights of the image", w.told(3), 1);
    }

    static void promise28_thenThereIsRoomAndNothingOld() {
        WeekOrders w = Bench.livelyWithSixSights();
        Bench.due("forget()", w.forget(), 6);
        Bench.due("whose(-1)", w.whose(-1), 24);
        Bench.due("seen(0, 1)", w.seen(0, 1), 1);
        Bench.due("whose(-1) then", w.whose(-1), 3);
    }

    // ---- 29 whose

    static void promise29_withoutSightsAllEightOfEach() {
        WeekOrders w = Bench.sixAlike();
        Bench.due("whose(-1)", w.whose(-1), 48);
        for (int i = 0; i < 48; i++) {
            Bench.due("whose(" + i + ")", w.whose(i), 10 * (i / 8) + i % 8);
        }
    }

    static void promise29_nobodyThereIsNone() {
        WeekOrders w = new WeekOrders();
        Bench.due("whose(-1)", w.whose(-1), 0);
        Bench.due("whose(0)", w.whose(0), NONE);
        w.seen(0, 0);
        Bench.due("whose(-1) with a sight", w.whose(-1), 0);
    }

    static void promise29_beyondTheLastIsNone() {
        for (int i : new int[] {48, 49, 256, 65536, Integer.MAX_VALUE}) {
            Bench.due("whose(" + i + ")", Bench.sixAlike().whose(i), NONE);
        }
        WeekOrders w = Bench.sixAlike();
        w.seen(0, 1);
        Bench.due("whose(5)", w.whose(5), 50);
        Bench.due("whose(6)", w.whose(6), NONE);
    }

    static void promise29_belowMinus1IsNone() {
        for (int i : new int[] {-2, -3, -6, -256, Integer.MIN_VALUE}) {
            Bench.due("whose(" + i + ")", Bench.sixAlike().whose(i), NONE);
        }
    }

    static void promise29_aDayThatHeNeverHasFitsWhereItWasNeverShut() {
        WeekOrders w = Bench.one("abcde", 0);
        for (int date = 0; date < 5; date++) {
            w.seen(date, 0);
        }
        Bench.due("whose(-1)", w.whose(-1), 3);
        Bench.due("whose(0)", w.whose(0), 5);
        Bench.due("whose(2)", w.whose(2), 7);
        w.seen(5, 1);
        Bench.due("whose(-1) once shut", w.whose(-1), 0);
        Bench.due("whose(0) once shut", w.whose(0), NONE);
    }

    static void promise29_allSightsMustFit() {
        WeekOrders w = Bench.two();
        w.seen(7, 1);
        Bench.due("whose(-1)", w.whose(-1), 2);
        w.seen(14, 1);
        Bench.due("whose(-1) of both", w.whose(-1), 1);
        Bench.due("whose(0) of both", w.whose(0), 0);
        w.seen(12, 1);
        Bench.due("whose(-1) of all three", w.whose(-1), 0);
    }

    static void promise29_whoWentIsNotAmongThem() {
        WeekOrders w = Bench.sixAlike();
        w.exile(0);
        Bench.due("whose(-1)", w.whose(-1), 40);
        Bench.due("whose(0)", w.whose(0), 10);
    }

    // ---- 30 sure

    static void promise30_dates0And9999AreTold() {
        WeekOrders w = Bench.one("abcdefgh", 0);
        w.seen(8, 1);
        Bench.due("sure(0)", w.sure(0), 1);
        Bench.due("sure(9999)", w.sure(9999), 0);
        Bench.due("sure(9992)", w.sure(9992), 1);
    }

    static void promise30_datesMinus1And10000AreOutside() {
        for (int date : BAD_DATES) {
            Bench.refused("sure(" + date + ")", w -> w.sure(date), OUTSIDE);
            Bench.refused("sure(" + date + ") with nobody", WeekOrders::new, w -> w.sure(date), OUTSIDE);
        }
    }

    static void promise30_noneIfNobodyIsThereOrNothingFits() {
        Bench.due("sure(0) with nobody", new WeekOrders().sure(0), NONE);
        WeekOrders w = Bench.sixAlike();
        w.seen(0, 1);
        w.seen(0, 0);
        Bench.due("sure(0)", w.sure(0), NONE);
        w.forget();
        Bench.due("sure(0) when forgotten", w.sure(0), 2);
    }

    static void promise30_withoutSightsNothingIsSure() {
        for (int date : new int[] {0, 1, 839, 9999}) {
            Bench.due("sure(" + date + ")", Bench.one("abcde", 0).sure(date), 2);
            Bench.due("sure(" + date + ")", Bench.sixAlike().sure(date), 2);
        }
    }

    static void promise30_byAllByNoneElse2() {
        WeekOrders w = Bench.two();
        w.seen(7, 1);
        Bench.due("a of both on 42", w.sure(42), 1);
        Bench.due("a of nobody on 8", w.sure(8), 0);
        Bench.due("a of the first on 14", w.sure(14), 2);
        Bench.due("a of the second on 12", w.sure(12), 2);
    }

    // ---- 31 chance

    private static void chance(int day, int date, long upper, long lower) {
        WeekOrders w = new WeekOrders();
        Bench.due("chance(" + day + ", " + date + ", 0)", w.chance(day, date, 0), upper);
        Bench.due("chance(" + day + ", " + date + ", 1)", w.chance(day, date, 1), lower);
    }

    static void promise31_days0And6AreOneInSevenAnd7IsNever() {
        for (int date = 0; date <= 14; date++) {
            for (int day = 0; day <= 6; day++) {
                chance(day, date, 1, 7);
            }
            chance(7, date, 0, 1);
        }
    }

    static void promise31_daysMinus1And8AreUnknown() {
        for (int day : BAD_DAYS) {
            Bench.refused("chance(" + day + ", 0, 0)", w -> w.chance(day, 0, 0), LOST + UNKNOWN);
            Bench.refused("chance(" + day + ", 0, 1)", w -> w.chance(day, 0, 1), LOST + UNKNOWN);
        }
        Bench.refused("chance(NONE, 0, 0)", w -> w.chance(NONE, 0, 0), LOST + UNKNOWN);
    }

    static void promise31_dates0And9999AreTold() {
        chance(0, 0, 1, 7);
        chance(0, 9999, 1, 7);
        chance(7, 9999, 0, 1);
    }

    static void promise31_datesMinus1And10000AreOutside() {
        for (int date : BAD_DATES) {
            Bench.refused("chance(0, " + date + ", 0)", w -> w.chance(0, date, 0), LOST + OUTSIDE);
            Bench.refused("chance(7, " + date + ", 1)", w -> w.chance(7, date, 1), LOST + OUTSIDE);
        }
    }

    static void promise31_partsMinus1And2AreOutside() {
        for (int part : BAD_BITS) {
            Bench.refused("chance(0, 0, " + part + ")", w -> w.chance(0, 0, part), LOST + OUTSIDE);
        }
    }

    static void promise31_unknownAheadOfOutside() {
        for (int day : BAD_DAYS) {
            Bench.refused("chance(" + day + ", -1, 0)", w -> w.chance(day, -1, 0), LOST + UNKNOWN);
            Bench.refused("chance(" + day + ", 10000, 0)", w -> w.chance(day, 10000, 0), LOST + UNKNOWN);
            Bench.refused("chance(" + day + ", 0, 2)", w -> w.chance(day, 0, 2), LOST + UNKNOWN);
            Bench.refused("chance(" + day + ", 0, -1)", w -> w.chance(day, 0, -1), LOST + UNKNOWN);
        }
    }

    // ---- 32 shares

    private static void shares(WeekOrders w, int person, int date, long upper, long lower) {
        Bench.due("shares(" + person + ", " + date + ", 0)", w.shares(person, date, 0), upper);
        Bench.due("shares(" + person + ", " + date + ", 1)", w.shares(person, date, 1), lower);
    }

    static void promise32_oneInSevenOrNeverOnHisDayH() {
        WeekOrders w = Bench.one("abcdefgh", 0);
        for (int date = 0; date < 7; date++) {
            shares(w, 0, date, 1, 7);
        }
        shares(w, 0, 7, 0, 1);
    }

    static void promise32_people0And5AreTold() {
        shares(Bench.sixAlike(), 0, 0, 1, 7);
        shares(Bench.sixAlike(), 5, 6, 1, 7);
    }

    static void promise32_whoIsNotThereIsUnknown() {
        for (int person : Bench.ABSENT) {
            Bench.refused("shares(" + person + ", 0, 0)", w -> w.shares(person, 0, 0), LOST + UNKNOWN);
            Bench.refused("shares(" + person + ", 0, 1)", w -> w.shares(person, 0, 1), LOST + UNKNOWN);
        }
    }

    static void promise32_dates0And9999AreTold() {
        shares(Bench.one("habcdefg", 0), 0, 0, 0, 1);
        shares(Bench.one("abcdefgh", 0), 0, 9999, 0, 1);
        shares(Bench.one("habcdefg", 0), 0, 9999, 1, 7);
    }

    static void promise32_datesMinus1And10000AreOutside() {
        for (int date : BAD_DATES) {
            Bench.refused("shares(0, " + date + ", 0)", w -> w.shares(0, date, 0), LOST + OUTSIDE);
        }
    }

    static void promise32_partsMinus1And2AreOutside() {
        for (int part : BAD_BITS) {
            Bench.refused("shares(0, 0, " + part + ")", w -> w.shares(0, 0, part), LOST + OUTSIDE);
        }
    }

    static void promise32_unknownAheadOfOutside() {
        for (int person : Bench.ABSENT) {
            Bench.refused("shares(" + person + ", -1, 0)", w -> w.shares(person, -1, 0), LOST + UNKNOWN);
            Bench.refused("shares(" + person + ", 10000, 0)", w -> w.shares(person, 10000, 0), LOST + UNKNOWN);
            Bench.refused("shares(" + person + ", 0, 2)", w -> w.shares(person, 0, 2), LOST + UNKNOWN);
            Bench.refused("shares(" + person + ", 0, -1)", w -> w.shares(person, 0, -1), LOST + UNKNOWN);
        }
    }

    // ---- 33 year

    private static void year(WeekOrders w, int seed, int m, int meetings, int days, int between) {
        String call = "year(" + seed + ", " + m;
        Bench.due(call + ", 0)", w.year(seed, m, 0), meetings);
        Bench.due(call + ", 1)", w.year(seed, m, 1), days);
        Bench.due(call + ", 2)", w.year(seed, m, 2), between);
    }

    /** People 0 and 2, who always have the same day: d mod 7 on date d. */
    private static WeekOrders zeroAndTwo() {
        WeekOrders w = Bench.one("abcdefg", 0);
        Bench.born(w, 2, "abcdefg", 0);
        return w;
    }

    static void promise33_seeds0And9999AreTaken() {
        // By seed 0 the first are 2 and 0, by seed 9999 4 and 0.
        year(Bench.sixAlike(), 0, 1, 1, 1, 0);
        year(zeroAndTwo(), 0, 1, 1, 1, 0);
        year(Bench.sixAlike(), 9999, 1, 1, 1, 0);
        year(zeroAndTwo(), 9999, 1, 0, 0, 0);
    }

    static void promise33_seedsMinus1And10000AreOutside() {
        for (int seed : Bench.outside(0, 9999)) {
            Bench.refused("year(" + seed + ", 1, 0)", w -> w.year(seed, 1, 0), OUTSIDE);
        }
    }

    static void promise33_1DateAnd999AreTaken() {
        // By seed 3, 2 and 0 are drawn for date 998.
        year(zeroAndTwo(), 0, 1, 1, 1, 0);
        year(zeroAndTwo(), 3, 998, 72, 7, 75);
        year(zeroAndTwo(), 3, 999, 73, 7, 75);
    }

    static void promise33_0DatesAnd1000AreOutside() {
        for (int m : Bench.outside(1, 999)) {
            Bench.refused("year(0, " + m + ", 0)", w -> w.year(0, m, 0), OUTSIDE);
        }
    }

    static void promise33_whatsMinus1And3AreOutside() {
        for (int what : Bench.outside(0, 2)) {
            Bench.refused("year(0, 1, " + what + ")", w -> w.year(0, 1, what), OUTSIDE);
        }
    }

    static void promise33_fewerThanTwoMeetingsHaveNoDatesBetween() {
        // By seed 3 these two are drawn for dates 44 and 56 first.
        year(zeroAndTwo(), 3, 44, 0, 0, 0);
        year(zeroAndTwo(), 3, 45, 1, 1, 0);
        year(zeroAndTwo(), 3, 56, 1, 1, 0);
        year(zeroAndTwo(), 3, 57, 2, 2, 12);
        year(new WeekOrders(), 0, 999, 0, 0, 0);
        year(Bench.one("abcde", 0), 0, 999, 0, 0, 0);
    }

    static void promise33_bothMustBeThere() {
        WeekOrders w = zeroAndTwo();
        w.exile(0);
        year(w, 0, 1, 0, 0, 0);
        w = zeroAndTwo();
        w.exile(2);
        year(w, 0, 1, 0, 0, 0);
    }

    static void promise33_oneIsNotTwo() {
        // By seed 1: 5 and 0, 5 and 2, 5 and 4, 4 and 4.
        year(Bench.sixAlike(), 1, 3, 3, 3, 1);
        year(Bench.sixAlike(), 1, 4, 3, 3, 1);
    }

    static void promise33_onTheSameDayOfThatDate() {
        year(Bench.sixApart(), 0, 999, 0, 0, 0);
        // By seed 0, 2 and 0 are drawn for date 0, 2 and 1 for date 1, 1 and 0 for date 4.
        WeekOrders w = Bench.one("abcdefg", 0);
        Bench.born(w, 2, "acbdefg", 0);
        Bench.born(w, 1, "acbdfeg", 0);
        year(w, 0, 5, 2, 2, 1);
        Bench.born(w, 2, "cabdefg", 0);
        year(w, 0, 5, 0, 0, 0);
    }

    // ---- 34 image

    static void promise34_0And1AreKept() {
        for (int n = 0; n <= 1; n++) {
            WeekOrders w = Bench.two();
            Bench.due("image(" + n + ")", w.image(n), 1);
            Bench.due("restore(" + n + ")", w.restore(n), 1);
            Bench.due("restore(" + (1 - n) + ")", w.restore(1 - n), STATE);
        }
    }

    static void promise34_minus1And2AreOutside() {
        for (int n : BAD_BITS) {
            Bench.refused("image(" + n + ")", w -> w.image(n), OUTSIDE);
            Bench.refused("image(" + n + ") of nothing", WeekOrders::new, w -> w.image(n), OUTSIDE);
        }
    }

    static void promise34_thePadIsNotKeptAndStays() {
        WeekOrders w = Bench.lively("abcde");
        Bench.due("image(1)", w.image(1), 1);
        Bench.due("signs", w.told(0), 5);
        Bench.due("wipe()", w.wipe(), 5);
        Bench.due("restore(1)", w.restore(1), 1);
        Bench.due("signs then", w.told(0), 0);
    }

    static void promise34_anewTakesThePlaceOfTheOld() {
        WeekOrders w = Bench.two();
        w.image(0);
        w.exile(0);
        Bench.due("image(0) anew", w.image(0), 1);
        Bench.born(w, 0, "hgfed", 0);
        w.restore(0);
        Bench.due("people", w.told(1), 2);
    }

    static void promise34_whatComesThenIsNotInIt() {
        WeekOrders w = Bench.lively();
        w.image(1);
        Bench.due("born(0, 0)", w.born(0, 0), 5);
        w.exile(2);
        w.forget();
        w.plan();
        w.restore(1);
        Bench.due("days", w.told(20), 7);
        Bench.due("people", w.told(1), 7);
        Bench.due("sights", w.told(3), 2);
        Bench.due("works", w.told(2), 3);
    }

    static void promise34_eachOfTheTwoKeepsItsOwn() {
        WeekOrders w = Bench.one("abcde", 1);
        w.image(0);
        Bench.born(w, 0, "abcdef", 2);
        w.image(1);
        Bench.born(w, 0, "abcdefg", 3);
        w.restore(0);
        Bench.due("days of 0", w.told(20), 5);
        w.restore(1);
        Bench.due("days of 1", w.told(20), 6);
        w.restore(0);
        Bench.due("birth of 0", w.told(10), 1);
    }

    // ---- 35 restore

    static void promise35_minus1And2AreOutside() {
        for (int n : BAD_BITS) {
            Bench.refused("restore(" + n + ")", w -> w.restore(n), OUTSIDE);
        }
    }

    static void promise35_whatWasNotKeptIsState() {
        Bench.refused("restore(1)", w -> w.restore(1), STATE);
        Bench.refused("restore(0)", WeekOrders::new, w -> w.restore(0), STATE);
        Bench.refused("restore(1)", WeekOrders::new, w -> w.restore(1), STATE);
    }

    static void promise35_outsideAheadOfState() {
        for (int n : BAD_BITS) {
            Bench.refused("restore(" + n + ") where none was kept", WeekOrders::new, w -> w.restore(n), OUTSIDE);
        }
    }

    static void promise35_peopleWorksAndSightsComeBackAndThePadStays() {
        WeekOrders w = Bench.lively("xyz");
        Bench.due("restore(0)", w.restore(0), 1);
        Bench.due("signs", w.told(0), 3);
        Bench.due("people", w.told(1), 8);
        Bench.due("birth", w.told(13), 4);
        Bench.due("days", w.told(23), 6);
        Bench.due("first day", w.told(400), 2);
        Bench.due("last day", w.told(405), 7);
        Bench.due("works", w.told(2), 1);
        Bench.due("day of the work", w.told(1000), 2);
        Bench.due("people of the work", w.told(1001), 8);
        Bench.due("sights", w.told(3), 1);
        Bench.due("whose(-1)", w.whose(-1), 1);
        Bench.due("whose(0)", w.whose(0), 33);
    }

    static void promise35_theSameNumberOfOtherDaysWorksAndSightsGivesWay() {
        WeekOrders w = Bench.one("abcde", 7);
        Bench.plan(w, "a0;b01;");
        w.seen(7, 1);
        w.seen(8, 0);
        w.image(0);
        Bench.born(w, 0, "hgfed", 8);
        Bench.plan(w, "h1;g2;");
        w.forget();
        w.seen(7, 0);
        w.seen(9, 1);
        w.restore(0);
        Bench.due("birth", w.told(10), 7);
        for (int place = 0; place < 5; place++) {
            Bench.due("day " + place, w.told(100 + place), place);
        }
        Bench.due("day of a work", w.told(1000), 0);
        Bench.due("people of a work", w.told(1001), 1);
        Bench.due("day of the other", w.told(2000), 1);
        Bench.due("people of the other", w.told(2001), 3);
        Bench.due("whose(-1)", w.whose(-1), 1);
        Bench.due("whose(0)", w.whose(0), 0);
    }

    static void promise35_sixOfEachComeBack() {
        WeekOrders w = Bench.sixApart();
        Bench.plan(w, "a0;b1;c2;d3;e4;f5;");
        for (int i = 0; i < 6; i++) {
            w.seen(i, 0);
        }
        w.image(1);
        for (int person = 0; person < 6; person++) {
            Bench.born(w, person, "hgfed", 9);
        }
        Bench.plan(w, "h0123;h0123;h0123;h0123;h0123;h0123;");
        w.forget();
        for (int i = 0; i < 6; i++) {
            w.seen(4, 1);
        }
        w.restore(1);
        for (int i = 0; i < 6; i++) {
            Bench.due("birth of " + i, w.told(10 + i), 0);
            Bench.due("days of " + i, w.told(20 + i), 7);
            Bench.due("first day of " + i, w.told(100 * (1 + i)), i);
            Bench.due("last day of " + i, w.told(100 * (1 + i) + 6), (i + 6) % 7);
            Bench.due("day of work " + i, w.told(1000 * (1 + i)), i);
            Bench.due("people of work " + i, w.told(1000 * (1 + i) + 1), 1 << i);
        }
        // Each has six of his days on dates 0 to 5, so that his day of date 6 and h are left.
        Bench.due("whose(-1)", w.whose(-1), 12);
        Bench.due("whose(0)", w.whose(0), 6);
        Bench.due("whose(11)", w.whose(11), 57);
    }

    static void promise35_whoWasNotThereGoes() {
        WeekOrders w = Bench.lively();
        w.restore(0);
        for (int person = 0; person < 3; person++) {
            Bench.due("today(" + person + ", 0)", w.today(person, 0), UNKNOWN);
            Bench.due("told(" + (10 + person) + ")", w.told(10 + person), OUTSIDE);
        }
        Bench.due("told(2000)", w.told(2000), OUTSIDE);
    }

    static void promise35_ofAnEmptyLandNothingIsLeft() {
        WeekOrders w = new WeekOrders();
        w.image(0);
        Bench.born(w, 0, "abcde", 0);
        Bench.plan(w, "a0;");
        w.seen(0, 1);
        Bench.due("restore(0)", w.restore(0), 1);
        for (int what = 0; what <= 3; what++) {
            Bench.due("told(" + what + ")", w.told(what), 0);
        }
    }

    static void promise35_theImageStays() {
        WeekOrders w = Bench.lively();
        for (int times = 1; times <= 3; times++) {
            Bench.due("restore(0) " + times, w.restore(0), 1);
            Bench.due("people " + times, w.told(1), 8);
            Bench.due("works " + times, w.told(2), 1);
            Bench.due("sights " + times, w.told(3), 1);
            w.wipe();
            Bench.born(w, 3, "abcde", times);
            w.exile(3);
            Bench.plan(w, "h0;h0;");
            w.seen(9, 0);
        }
    }

    // ---- 36 told

    private static void told(WeekOrders w, int what, int due) {
        Bench.due("told(" + what + ")", w.told(what), due);
    }

    static void promise36_0To3AndNotMinus1And4() {
        WeekOrders w = Bench.lively();
        told(w, 0, 5);
        told(w, 1, 7);
        told(w, 2, 3);
        told(w, 3, 2);
        Bench.refused("told(-1)", x -> x.told(-1), OUTSIDE);
        Bench.refused("told(4)", x -> x.told(4), OUTSIDE);
        Bench.refused("told(9)", x -> x.told(9), OUTSIDE);
    }

    static void promise36_birthsAre10To15AndNot9And16() {
        WeekOrders w = Bench.sixAlike();
        told(w, 9, OUTSIDE);
        told(w, 10, 0);
        told(w, 15, 0);
        told(w, 16, OUTSIDE);
        Bench.born(w, 0, "abcde", 99);
        Bench.born(w, 5, "abcde", 98);
        told(w, 10, 99);
        told(w, 15, 98);
    }

    static void promise36_daysOfOrdersAre20To25AndNot19And26() {
        WeekOrders w = Bench.sixAlike();
        told(w, 19, OUTSIDE);
        told(w, 20, 7);
        told(w, 25, 7);
        told(w, 26, OUTSIDE);
        Bench.born(w, 0, "abcde", 0);
        Bench.born(w, 5, "abcdefgh", 0);
        told(w, 20, 5);
        told(w, 25, 8);
    }

    static void promise36_placesFromTheFirstToTheLast() {
        WeekOrders w = new WeekOrders();
        for (int size = 5; size <= 8; size++) {
            Bench.born(w, size - 5, "hgfedcba".substring(0, size), 0);
            int first = 100 * (size - 4);
            told(w, first - 1, OUTSIDE);
            told(w, first, 7);
            told(w, first + size - 1, 8 - size);
            told(w, first + size, OUTSIDE);
        }
    }

    static void promise36_peopleAre100To600AndNot0And700() {
        WeekOrders w = Bench.sixApart();
        told(w, 7, OUTSIDE);
        told(w, 99, OUTSIDE);
        told(w, 100, 0);
        told(w, 106, 6);
        told(w, 600, 5);
        told(w, 606, 4);
        told(w, 607, OUTSIDE);
        told(w, 700, OUTSIDE);
        told(w, 999, OUTSIDE);
    }

    static void promise36_aPlaceHasTwoDigits() {
        WeekOrders w = Bench.one("abcdefgh", 0);
        Bench.born(w, 1, "hgfedcba", 0);
        told(w, 108, OUTSIDE);
        told(w, 110, OUTSIDE);
        told(w, 199, OUTSIDE);
        told(w, 200, 7);
    }

    static void promise36_worksAre1000To6000AndNot0And7000() {
        WeekOrders w = Bench.saying("a0;b1;c2;d3;e4;f012345;");
        w.plan();
        told(w, 999, OUTSIDE);
        told(w, 1000, 0);
        told(w, 1001, 1);
        told(w, 1002, OUTSIDE);
        told(w, 1999, OUTSIDE);
        told(w, 5999, OUTSIDE);
        told(w, 6000, 5);
        told(w, 6001, 63);
        told(w, 6002, OUTSIDE);
        told(w, 7000, OUTSIDE);
    }

    static void promise36_worksBeyondTheLastAreOutside() {
        WeekOrders w = Bench.lively();
        told(w, 3000, 7);
        told(w, 3001, 4);
        told(w, 4000, OUTSIDE);
        told(w, 4001, OUTSIDE);
        w.wipe();
        w.plan();
        told(w, 1000, OUTSIDE);
        told(w, 1001, OUTSIDE);
    }

    static void promise36_whoIsNotThereIsOutside() {
        WeekOrders w = Bench.two();
        w.exile(0);
        for (int person : new int[] {0, 2, 3, 4, 5}) {
            told(w, 10 + person, OUTSIDE);
            told(w, 20 + person, OUTSIDE);
            told(w, 100 * (1 + person), OUTSIDE);
        }
        told(w, 11, 2);
    }

    static void promise36_belowMinus1AndVeryFar() {
        for (int what : new int[] {-2, -10, -90, -100, -101, -900, -1000, -1001, 10000, 65536,
            Integer.MIN_VALUE, Integer.MIN_VALUE + 10, Integer.MIN_VALUE + 20, Integer.MAX_VALUE}) {
            Bench.refused("told(" + what + ")", w -> w.told(what), OUTSIDE);
        }
    }

    public static void main(String[] args) {
        Bench.run(BoundsWellsTests.class, 27, 36);
    }
}
