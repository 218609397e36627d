/** The bounds of promises 1 to 7: people and texts. What is due was worked out by hand. */
public final class BoundsPeopleTests {
    private static final int NONE = Bench.NONE, UNKNOWN = Bench.UNKNOWN, OUTSIDE = Bench.OUTSIDE,
        STATE = Bench.STATE, FULL = Bench.FULL, NO = Bench.NO;
    private static final String FULL_PLAN = "a012345;".repeat(6);

    // ---- 1 a new object

    static void promise01_nobodyIsThere() {
        WeekOrders w = new WeekOrders();
        Bench.due("told(1)", w.told(1), 0);
        for (int person = 0; person < 6; person++) {
            Bench.due("today(" + person + ", 0)", w.today(person, 0), UNKNOWN);
            Bench.due("exile(" + person + ")", w.exile(person), UNKNOWN);
            Bench.due("told(" + (10 + person) + ")", w.told(10 + person), OUTSIDE);
            Bench.due("told(" + (20 + person) + ")", w.told(20 + person), OUTSIDE);
        }
        for (int day = 0; day < 8; day++) {
            Bench.due("same(" + day + ", 0)", w.same(day, 0), 0);
        }
    }

    static void promise01_noPlan() {
        WeekOrders w = new WeekOrders();
        Bench.due("told(2)", w.told(2), 0);
        Bench.due("told(1000)", w.told(1000), OUTSIDE);
        Bench.due("can(0, 0)", w.can(0, 0), UNKNOWN);
        Bench.due("barred()", w.barred(), 0);
    }

    static void promise01_noSignsNoSightsNoImages() {
        WeekOrders w = new WeekOrders();
        Bench.due("told(0)", w.told(0), 0);
        Bench.due("told(3)", w.told(3), 0);
        Bench.due("wipe()", w.wipe(), 0);
        Bench.due("forget()", w.forget(), 0);
        Bench.due("restore(0)", w.restore(0), STATE);
        Bench.due("restore(1)", w.restore(1), STATE);
    }

    static void promise01_aNewObjectHasNothingOfAnother() {
        WeekOrders other = Bench.lively();
        Bench.due("image(1) of another", other.image(1), 1);
        WeekOrders w = new WeekOrders();
        for (int what = 0; what <= 3; what++) {
            Bench.due("told(" + what + ")", w.told(what), 0);
        }
        Bench.due("restore(0)", w.restore(0), STATE);
        Bench.due("restore(1)", w.restore(1), STATE);
        Bench.due("born(0, 0) without signs", w.born(0, 0), NO);
        Bench.due("people of another", other.told(1), 7);
    }

    // ---- 2 say

    static void promise02_signs33And126AreTaken() {
        WeekOrders w = new WeekOrders();
        Bench.due("say(33)", w.say(33), 1);
        Bench.due("say(126)", w.say(126), 2);
    }

    static void promise02_everySignBetweenIsTaken() {
        WeekOrders w = new WeekOrders();
        for (int sign = 33; sign <= 126; sign++) {
            Bench.due("say(" + sign + ")", w.say(sign), 1);
            w.wipe();
        }
    }

    static void promise02_signs32And127AreOutside() {
        for (int sign : Bench.outside(33, 126)) {
            Bench.refused("say(" + sign + ")", w -> w.say(sign), OUTSIDE);
        }
        // These would be signs, if only their lowest bits were looked at.
        for (int sign : new int[] {97 + 256, 97 + 65536, 97 - 256, Integer.MIN_VALUE + 97}) {
            Bench.refused("say(" + sign + ")", w -> w.say(sign), OUTSIDE);
        }
    }

    static void promise02_the60thSignIsTaken() {
        WeekOrders w = new WeekOrders();
        for (int count = 1; count <= 60; count++) {
            Bench.due("say('a')", w.say('a'), count);
        }
        Bench.due("told(0)", w.told(0), 60);
    }

    static void promise02_the61stSignIsFull() {
        Bench.refused("say('a')", Bench::livelyWithFullPad, w -> w.say('a'), FULL);
        Bench.refused("say(33)", Bench::livelyWithFullPad, w -> w.say(33), FULL);
    }

    static void promise02_outsideAheadOfFull() {
        for (int sign : Bench.outside(33, 126)) {
            Bench.refused("say(" + sign + ")", Bench::livelyWithFullPad, w -> w.say(sign), OUTSIDE);
        }
    }

    // ---- 3 wipe

    static void promise03_anEmptyPadHas0() {
        WeekOrders w = new WeekOrders();
        Bench.due("wipe()", w.wipe(), 0);
        Bench.say(w, "a");
        Bench.due("wipe() of one", w.wipe(), 1);
        Bench.due("wipe() again", w.wipe(), 0);
        Bench.due("told(0)", w.told(0), 0);
    }

    static void promise03_aFullPadHas60AndThenRoom() {
        WeekOrders w = Bench.livelyWithFullPad();
        Bench.due("wipe()", w.wipe(), 60);
        Bench.due("say('a')", w.say('a'), 1);
    }

    static void promise03_onlyThePadGoes() {
        WeekOrders w = Bench.lively();
        w.wipe();
        Bench.due("signs", w.told(0), 0);
        Bench.due("people", w.told(1), 7);
        Bench.due("works", w.told(2), 3);
        Bench.due("sights", w.told(3), 2);
        Bench.due("restore(0)", w.restore(0), 1);
    }

    // ---- 4 fault

    private static void order(String text, int fault) {
        WeekOrders w = Bench.saying(text);
        Bench.due("fault(0) of " + text, w.fault(0), fault);
        Bench.due("signs stay of " + text, w.told(0), text.length());
    }

    private static void plan(String text, int fault) {
        WeekOrders w = Bench.saying(text);
        Bench.due("fault(1) of " + text, w.fault(1), fault);
        Bench.due("signs stay of " + text, w.told(0), text.length());
    }

    static void promise04_hows0And1AreTold() {
        WeekOrders w = Bench.saying("abcde");
        Bench.due("fault(0)", w.fault(0), NONE);
        Bench.due("fault(1)", w.fault(1), 1);
    }

    static void promise04_howsMinus1And2AreOutside() {
        for (int how : Bench.outside(0, 1)) {
            Bench.refused("fault(" + how + ")", w -> w.fault(how), OUTSIDE);
        }
    }

    static void promise04_anOrderOf5To8LettersHasNone() {
        order("abcde", NONE);
        order("abcdef", NONE);
        order("abcdefg", NONE);
        order("abcdefgh", NONE);
        order("hgfed", NONE);
        order("hgfedcba", NONE);
    }

    static void promise04_anOrderOf4LettersMustGoOn() {
        order("abcd", 4);
        order("hgfe", 4);
        order("abc", 3);
        order("a", 1);
    }

    static void promise04_anEmptyOrderMustBegin() {
        order("", 0);
    }

    static void promise04_aNinthLetterCanNotStand() {
        order("abcdefgha", 8);
        order("abcdefghh", 8);
        order("abcdefghi", 8);
        order("abcdefgh;", 8);
    }

    static void promise04_anOrderHasLettersAToH() {
        order("a`bcdef", 1);
        order("aibcdef", 1);
        order("abcdeF", 5);
        order("abcde0", 5);
        order("abcde;", 5);
        order("`", 0);
        order("i", 0);
        order("A", 0);
        order("!", 0);
        order("~", 0);
    }

    static void promise04_anOrdersLettersAreDifferent() {
        order("aabcde", 1);
        order("abcdea", 5);
        order("abcdee", 5);
        order("hgfedch", 6);
        order("abcdefgg", 7);
    }

    static void promise04_anOrdersFirstWrongSignAlsoWhereMoreMustCome() {
        order("aa", 1);
        order("ab1", 2);
        order("abca", 3);
        order("aa1", 1);
        order("1aa", 0);
        order("abcz" + "abcde", 3);
    }

    static void promise04_anEmptyPlanHasNone() {
        plan("", NONE);
    }

    static void promise04_aWorkBeginsWithALetterAToH() {
        plan("a0;", NONE);
        plan("h0;", NONE);
        plan("`0;", 0);
        plan("i0;", 0);
        plan("A0;", 0);
        plan("0", 0);
        plan(";", 0);
        plan("a0;;", 3);
        plan("a0;0;", 3);
        plan("a0;`0;", 3);
        plan("a0;i0;", 3);
    }

    static void promise04_aWorksDigitsAre0To5() {
        plan("a0;", NONE);
        plan("a5;", NONE);
        plan("a012345;", NONE);
        plan("a/;", 1);
        plan("a6;", 1);
        plan("a:;", 1);
        plan("a9;", 1);
        plan("a06;", 2);
        plan("a0/;", 2);
        plan("a0:;", 2);
    }

    static void promise04_aWorksDigitsRise() {
        plan("a01;", NONE);
        plan("a05;", NONE);
        plan("a45;", NONE);
        plan("a00;", 2);
        plan("a55;", 2);
        plan("a10;", 2);
        plan("a54;", 2);
        plan("a020;", 3);
        plan("a0123454;", 7);
        plan("a0123455;", 7);
        plan("a0123456;", 7);
    }

    static void promise04_aWorksDigitsRiseAnewInTheNextWork() {
        plan("a5;b0;", NONE);
        plan("a345;b345;c0;", NONE);
    }

    static void promise04_aWorkHasOneDigitAtLeast() {
        plan("a;", 1);
        plan("ab", 1);
        plan("a0;b;", 4);
        plan("a0;bc", 4);
    }

    static void promise04_aWorkEndsWithItsSign() {
        plan("a0b1;", 2);
        plan("a0,", 2);
        plan("a0:", 2);
        plan("a0<", 2);
        plan("a0!1", 2);
    }

    static void promise04_aPlanMustGoOnToItsWorksEnd() {
        plan("a", 1);
        plan("a0", 2);
        plan("a012345", 7);
        plan("a0;b", 4);
        plan("a0;b1", 5);
        plan("a0;b1;", NONE);
        plan("a0;a0;a0;a0;a0;a", 16);
        plan("a0;a0;a0;a0;a0;a0", 17);
    }

    static void promise04_aPlanOf6WorksHasNone() {
        plan("a0;a0;a0;a0;a0;a0;", NONE);
        plan("a0;b1;c2;d3;e4;f5;", NONE);
        plan(FULL_PLAN, NONE);
    }

    static void promise04_aSeventhWorkCanNotStand() {
        plan("a0;a0;a0;a0;a0;a0;a", 18);
        plan("a0;a0;a0;a0;a0;a0;a0;", 18);
        plan("a0;a0;a0;a0;a0;a0;;", 18);
        plan(FULL_PLAN + "a", 48);
        plan(FULL_PLAN + "a01234;b345;", 48);
    }

    static void promise04_aPlansFirstWrongSignAlsoWhereMoreMustCome() {
        plan("a00", 2);
        plan("a6", 1);
        plan("ax", 1);
        plan("a0x", 2);
        plan("a0;bx", 4);
        plan("a0;b11", 5);
        plan("x0", 0);
        plan("a00b", 2);
    }

    static void promise04_aFullPad() {
        order("x".repeat(60), 0);
        plan("x".repeat(60), 0);
        order("abcdefgh" + "a".repeat(52), 8);
        plan(FULL_PLAN + "a0;b1;c2;d3;", 48);
    }

    // ---- 5 born

    static void promise05_people0And5AreBorn() {
        WeekOrders w = new WeekOrders();
        Bench.born(w, 0, "abcde", 0);
        Bench.due("told(1)", w.told(1), 1);
        Bench.born(w, 5, "abcde", 0);
        Bench.due("told(1)", w.told(1), 33);
    }

    static void promise05_peopleMinus1And6AreUnknown() {
        for (int person : Bench.outside(0, 5)) {
            Bench.refused("born(" + person + ", 0)", w -> w.born(person, 0), UNKNOWN);
        }
    }

    static void promise05_births0And99AreTaken() {
        WeekOrders w = new WeekOrders();
        Bench.born(w, 0, "abcde", 0);
        Bench.born(w, 1, "abcde", 99);
        Bench.due("told(10)", w.told(10), 0);
        Bench.due("told(11)", w.told(11), 99);
    }

    static void promise05_birthsMinus1And100AreOutside() {
        for (int birth : Bench.outside(0, 99)) {
            Bench.refused("born(4, " + birth + ")", w -> w.born(4, birth), OUTSIDE);
            Bench.refused("born(0, " + birth + ")", w -> w.born(0, birth), OUTSIDE);
        }
    }

    static void promise05_5To8DaysAreTold() {
        WeekOrders w = new WeekOrders();
        Bench.born(w, 0, "hgfed", 0);
        Bench.born(w, 1, "hgfedc", 0);
        Bench.born(w, 2, "hgfedcb", 0);
        Bench.born(w, 3, "hgfedcba", 0);
        for (int person = 0; person < 4; person++) {
            Bench.due("told(" + (20 + person) + ")", w.told(20 + person), 5 + person);
        }
    }

    static void promise05_noWithAFault() {
        for (String pad : new String[] {"", "a", "abcd", "abcda", "abcdei", "abcdefgha", "a0;", FULL_PLAN}) {
            Bench.refused("born(4, 0) of " + pad, () -> Bench.lively(pad), w -> w.born(4, 0), NO);
            Bench.refused("born(0, 0) of " + pad, () -> Bench.lively(pad), w -> w.born(0, 0), NO);
        }
        Bench.refused("born(4, 0) of a full pad", Bench::livelyWithFullPad, w -> w.born(4, 0), NO);
    }

    static void promise05_unknownAheadOfOutside() {
        for (int person : Bench.outside(0, 5)) {
            Bench.refused("born(" + person + ", 100)", w -> w.born(person, 100), UNKNOWN);
            Bench.refused("born(" + person + ", -1)", w -> w.born(person, -1), UNKNOWN);
        }
    }

    static void promise05_unknownAheadOfNo() {
        for (int person : new int[] {-1, 6}) {
            Bench.refused("born(" + person + ", 0)", () -> Bench.lively("abcd"), w -> w.born(person, 0), UNKNOWN);
            Bench.refused("born(" + person + ", 100)", () -> Bench.lively("abcd"), w -> w.born(person, 100), UNKNOWN);
        }
    }

    static void promise05_outsideAheadOfNo() {
        for (int birth : new int[] {-1, 100}) {
            Bench.refused("born(4, " + birth + ")", () -> Bench.lively("abcd"), w -> w.born(4, birth), OUTSIDE);
            Bench.refused("born(4, " + birth + ")", () -> Bench.lively(""), w -> w.born(4, birth), OUTSIDE);
        }
    }

    static void promise05_thePadIsEmptyThen() {
        WeekOrders w = Bench.lively("hgfed");
        Bench.due("born(4, 0)", w.born(4, 0), 5);
        Bench.due("told(0)", w.told(0), 0);
        Bench.due("born(4, 0) again", w.born(4, 0), NO);
        Bench.due("say('a')", w.say('a'), 1);
    }

    static void promise05_anewTakesTheNewOrderWhole() {
        WeekOrders w = Bench.one("abcdefgh", 99);
        Bench.born(w, 1, "abcde", 7);
        Bench.born(w, 0, "hgfed", 3);
        Bench.due("people", w.told(1), 3);
        Bench.due("birth", w.told(10), 3);
        Bench.due("days", w.told(20), 5);
        Bench.due("first", w.told(100), 7);
        Bench.due("last", w.told(104), 3);
        Bench.due("none behind the last", w.told(105), OUTSIDE);
        Bench.due("birth of another", w.told(11), 7);
        Bench.due("days of another", w.told(21), 5);
    }

    // ---- 6 exile

    static void promise06_people0And5Go() {
        WeekOrders w = Bench.sixAlike();
        Bench.due("exile(0)", w.exile(0), 5);
        Bench.due("told(1)", w.told(1), 62);
        Bench.due("exile(5)", w.exile(5), 4);
        Bench.due("told(1)", w.told(1), 30);
    }

    static void promise06_peopleMinus1And6AreUnknown() {
        for (int person : Bench.outside(0, 5)) {
            Bench.refused("exile(" + person + ")", w -> w.exile(person), UNKNOWN);
        }
    }

    static void promise06_whoIsNotThereIsUnknown() {
        for (int person : Bench.ABSENT) {
            Bench.refused("exile(" + person + ")", w -> w.exile(person), UNKNOWN);
        }
        WeekOrders w = Bench.lively();
        Bench.due("exile(1)", w.exile(1), 2);
        Bench.due("exile(1) again", w.exile(1), UNKNOWN);
    }

    static void promise06_theLastLeavesNobody() {
        WeekOrders w = Bench.one("abcde", 0);
        Bench.due("exile(0)", w.exile(0), 0);
        Bench.due("told(1)", w.told(1), 0);
        Bench.due("feast(0)", w.feast(0), NONE);
    }

    static void promise06_theOthersAndThePlanStay() {
        WeekOrders w = Bench.lively();
        Bench.due("exile(0)", w.exile(0), 2);
        Bench.due("told(1)", w.told(1), 6);
        Bench.due("birth of another", w.told(12), 9);
        Bench.due("works", w.told(2), 3);
        Bench.due("his work", w.told(1001), 3);
        Bench.due("sights", w.told(3), 2);
        Bench.due("signs", w.told(0), 5);
    }

    static void promise06_hisWorkIsDoneAgainWhenHeIsBornAgain() {
        WeekOrders w = Bench.two();
        Bench.plan(w, "a01;");
        w.exile(0);
        Bench.due("can(0, 7)", w.can(0, 7), 0);
        Bench.born(w, 0, "abcdefg", 0);
        Bench.due("can(0, 7) again", w.can(0, 7), 1);
    }

    // ---- 7 plan

    static void promise07_anEmptyPadIsAPlanOfNone() {
        WeekOrders w = Bench.lively("");
        Bench.due("works ahead", w.told(2), 3);
        Bench.due("plan()", w.plan(), 0);
        Bench.due("works", w.told(2), 0);
        Bench.due("can(0, 7)", w.can(0, 7), UNKNOWN);
    }

    static void promise07_6WorksAreTaken() {
        WeekOrders w = Bench.saying("a0;b1;c2;d3;e4;h012345;");
        Bench.due("plan()", w.plan(), 6);
        Bench.due("told(2)", w.told(2), 6);
        for (int work = 0; work < 5; work++) {
            Bench.due("day of " + work, w.told(1000 * (1 + work)), work);
            Bench.due("people of " + work, w.told(1000 * (1 + work) + 1), 1 << work);
        }
        Bench.due("day of the sixth", w.told(6000), 7);
        Bench.due("people of the sixth", w.told(6001), 63);
    }

    static void promise07_7WorksAreNo() {
        Bench.refused("plan()", () -> Bench.lively("a0;a0;a0;a0;a0;a0;a0;"), WeekOrders::plan, NO);
    }

    static void promise07_noWithAFault() {
        for (String pad : new String[] {"a", "a0", "a;", "a0;b1", "a00;", "a6;", "i0;", "abcde"}) {
            Bench.refused("plan() of " + pad, () -> Bench.lively(pad), WeekOrders::plan, NO);
        }
        Bench.refused("plan() of a full pad", Bench::livelyWithFullPad, WeekOrders::plan, NO);
    }

    static void promise07_thePadIsEmptyThen() {
        WeekOrders w = Bench.saying("a0;");
        Bench.due("plan()", w.plan(), 1);
        Bench.due("told(0)", w.told(0), 0);
        Bench.due("plan() of none", w.plan(), 0);
    }

    static void promise07_theNewPlanTakesThePlaceOfTheOld() {
        WeekOrders w = Bench.saying(FULL_PLAN);
        Bench.due("plan()", w.plan(), 6);
        Bench.plan(w, "b3;c4;");
        Bench.due("works", w.told(2), 2);
        Bench.due("day", w.told(1000), 1);
        Bench.due("people", w.told(1001), 8);
        Bench.due("day of the second", w.told(2000), 2);
        Bench.due("people of the second", w.told(2001), 16);
        Bench.due("no third", w.told(3000), OUTSIDE);
    }

    static void promise07_itsPeopleNeedNotBeThere() {
        WeekOrders w = new WeekOrders();
        Bench.plan(w, "a5;");
        Bench.due("people", w.told(1001), 32);
        Bench.due("can(0, 0)", w.can(0, 0), 0);
        Bench.born(w, 5, "abcde", 0);
        Bench.due("can(0, 0) then", w.can(0, 0), 1);
    }

    public static void main(String[] args) {
        Bench.run(BoundsPeopleTests.class, 1, 7);
    }
}
