/**
 * What each call that is not refused changes, and that it leaves all else as it was. Who asks
 * changes nothing, and gets the same answer again.
 */
public final class ChangesTests {
    private static final String PEOPLE = "0 abcdefg 0,1 abcde 2,2 hgfedcba 9";
    private static final String PLAN = "a01;b012;h2;";
    private static final String SIGHTS = "7 1,8 0";
    private static final String PAD = "hgfed";

    private ChangesTests() {
    }

    /** Like Bench.lively(), but with these people, works, sights and signs. */
    private static WeekOrders land(String people, String plan, String sights, String pad) {
        WeekOrders w = new WeekOrders();
        fill(w, "3 cdefgh 4", "c3;", "5 1");
        w.image(0);
        w.exile(3);
        w.forget();
        fill(w, people, plan, sights);
        Bench.say(w, pad);
        return w;
    }

    private static void fill(WeekOrders w, String people, String plan, String sights) {
        for (String person : parts(people)) {
            String[] words = person.split(" ");
            Bench.say(w, words[1]);
            w.born(Integer.parseInt(words[0]), Integer.parseInt(words[2]));
        }
        Bench.say(w, plan);
        w.plan();
        for (String sight : parts(sights)) {
            String[] words = sight.split(" ");
            w.seen(Integer.parseInt(words[0]), Integer.parseInt(words[1]));
        }
    }

    private static String[] parts(String text) {
        return text.isEmpty() ? new String[0] : text.split(",");
    }

    private static WeekOrders lively() {
        return land(PEOPLE, PLAN, SIGHTS, PAD);
    }

    // ---- calls that change

    static void promise01_aNewObjectIsAsOneThatLostAll() {
        Bench.makes("all goes", () -> {
            WeekOrders w = new WeekOrders();
            fill(w, PEOPLE, PLAN, SIGHTS);
            return w;
        }, w -> w.plan() + w.forget() + w.exile(0) + w.exile(1) + w.exile(2), 2 + 2 + 1, WeekOrders::new);
    }

    static void promise02_aSignMoreAndNothingElse() {
        Bench.makes("say('c')", ChangesTests::lively, w -> w.say('c'), 6, () -> land(PEOPLE, PLAN, SIGHTS, "hgfedc"));
        Bench.makes("say('~')", ChangesTests::lively, w -> w.say('~'), 6, () -> land(PEOPLE, PLAN, SIGHTS, "hgfed~"));
    }

    static void promise03_theSignsGoAndNothingElse() {
        Bench.makes("wipe()", ChangesTests::lively, w -> w.wipe(), 5, () -> land(PEOPLE, PLAN, SIGHTS, ""));
    }

    static void promise05_onePersonMoreAndThePadIsEmpty() {
        Bench.makes("born(5, 99)", ChangesTests::lively, w -> w.born(5, 99), 5,
            () -> land(PEOPLE + ",5 hgfed 99", PLAN, SIGHTS, ""));
        Bench.makes("born(3, 4)", ChangesTests::lively, w -> w.born(3, 4), 5,
            () -> land(PEOPLE + ",3 hgfed 4", PLAN, SIGHTS, ""));
    }

    static void promise05_onePersonAnewAndThePadIsEmpty() {
        Bench.makes("born(1, 30)", ChangesTests::lively, w -> w.born(1, 30), 5,
            () -> land("0 abcdefg 0,1 hgfed 30,2 hgfedcba 9", PLAN, SIGHTS, ""));
        Bench.makes("born(2, 9)", ChangesTests::lively, w -> w.born(2, 9), 5,
            () -> land("0 abcdefg 0,1 abcde 2,2 hgfed 9", PLAN, SIGHTS, ""));
    }

    static void promise05_whoWentAndIsBornAnewHasNothingOfOld() {
        Bench.makes("exile(2) and born(2, 1)", ChangesTests::lively, w -> w.exile(2) + w.born(2, 1), 2 + 5,
            () -> land("0 abcdefg 0,1 abcde 2,2 hgfed 1", PLAN, SIGHTS, ""));
    }

    static void promise06_onePersonGoesAndNothingElse() {
        Bench.makes("exile(0)", ChangesTests::lively, w -> w.exile(0), 2,
            () -> land("1 abcde 2,2 hgfedcba 9", PLAN, SIGHTS, PAD));
        Bench.makes("exile(1)", ChangesTests::lively, w -> w.exile(1), 2,
            () -> land("0 abcdefg 0,2 hgfedcba 9", PLAN, SIGHTS, PAD));
        Bench.makes("all go", ChangesTests::lively, w -> w.exile(0) + w.exile(1) + w.exile(2), 2 + 1,
            () -> land("", PLAN, SIGHTS, PAD));
    }

    static void promise07_theWorksGiveWayAndThePadIsEmpty() {
        Bench.makes("plan()", () -> land(PEOPLE, PLAN, SIGHTS, "c1;d05;"), w -> w.plan(), 2,
            () -> land(PEOPLE, "c1;d05;", SIGHTS, ""));
        Bench.makes("plan() of six", () -> land(PEOPLE, PLAN, SIGHTS, "a0;b1;c2;d3;e4;f5;"), w -> w.plan(), 6,
            () -> land(PEOPLE, "a0;b1;c2;d3;e4;f5;", SIGHTS, ""));
        Bench.makes("plan() of none", () -> land(PEOPLE, PLAN, SIGHTS, ""), w -> w.plan(), 0,
            () -> land(PEOPLE, "", SIGHTS, ""));
    }

    static void promise27_aSightMoreAndNothingElse() {
        Bench.makes("seen(14, 0)", ChangesTests::lively, w -> w.seen(14, 0), 3,
            () -> land(PEOPLE, PLAN, "7 1,8 0,14 0", PAD));
        Bench.makes("seen(14, 1)", ChangesTests::lively, w -> w.seen(14, 1), 3,
            () -> land(PEOPLE, PLAN, "7 1,8 0,14 1", PAD));
    }

    static void promise28_theSightsGoAndNothingElse() {
        Bench.makes("forget()", ChangesTests::lively, w -> w.forget(), 2, () -> land(PEOPLE, PLAN, "", PAD));
        Bench.makes("forget() and seen(8, 0)", ChangesTests::lively, w -> w.forget() + w.seen(8, 0), 2 + 1,
            () -> land(PEOPLE, PLAN, "8 0", PAD));
    }

    /** As lively() now; this is kept in the first image (else what lively() keeps there), in the second. */
    private static WeekOrders kept(boolean first, boolean second) {
        WeekOrders w = new WeekOrders();
        if (!first) {
            fill(w, "3 cdefgh 4", "c3;", "5 1");
            w.image(0);
            w.exile(3);
            w.forget();
        }
        fill(w, PEOPLE, PLAN, SIGHTS);
        if (first) {
            w.image(0);
        }
        if (second) {
            w.image(1);
        }
        Bench.say(w, PAD);
        return w;
    }

    static void promise34_oneImageAndNothingElse() {
        Bench.makes("image(0)", ChangesTests::lively, w -> w.image(0), 1, () -> kept(true, false));
        Bench.makes("image(1)", ChangesTests::lively, w -> w.image(1), 1, () -> kept(false, true));
        Bench.makes("both", ChangesTests::lively, w -> w.image(1) + w.image(0), 2, () -> kept(true, true));
    }

    static void promise34_whatChangesThenIsNotInTheImage() {
        Bench.makes("image(1), then all changes and comes back", ChangesTests::lively, w -> {
            long sum = w.image(1) + w.born(0, 50) + w.exile(1) + w.plan() + w.forget() + w.seen(1, 1);
            Bench.say(w, PAD);
            return sum + w.restore(1);
        }, 1 + 5 + 2 + 0 + 2 + 1 + 1, () -> kept(false, true));
    }

    static void promise35_allButThePadAndTheImagesIsAsItWas() {
        Bench.makes("restore(0)", ChangesTests::lively, w -> w.restore(0), 1, () -> {
            WeekOrders w = new WeekOrders();
            fill(w, "3 cdefgh 4", "c3;", "5 1");
            w.image(0);
            Bench.say(w, PAD);
            return w;
        });
        Bench.makes("restore(1)", () -> kept(false, true), w -> w.restore(1), 1, () -> kept(false, true));
    }

    static void promise35_thereAndBack() {
        Bench.makes("restore(0), restore(1)", () -> kept(false, true), w -> w.restore(0) + w.restore(1), 2,
            () -> kept(false, true));
        Bench.makes("restore(0), changes, restore(1)", () -> kept(false, true),
            w -> w.restore(0) + w.exile(3) + w.forget() + w.seen(0, 0) + w.restore(1), 1 + 0 + 1 + 1 + 1,
            () -> kept(false, true));
    }

    // ---- calls that ask

    private static void asked(String question, int forms, Bench.Question asked) {
        Bench.asked(question, ChangesTests::lively, forms, asked);
    }

    static void promise04_asksOnly() {
        asked("fault", 2, (w, i) -> w.fault(i));
        Bench.asked("fault of a plan", () -> land(PEOPLE, PLAN, SIGHTS, "a0;b1"), 2, (w, i) -> w.fault(i));
    }

    static void promise08_asksOnly() {
        asked("today", 100, (w, i) -> w.today(i % 3, 83 * i));
    }

    static void promise09_asksOnly() {
        asked("same", 100, (w, i) -> w.same(i % 8, 83 * i));
    }

    static void promise10_asksOnly() {
        asked("next", 100, (w, i) -> w.next(i % 3, i % 8, 83 * i));
    }

    static void promise11_asksOnly() {
        asked("meet", 100, (w, i) -> w.meet(1 + i % 7, 83 * i, i % 2));
    }

    static void promise12_asksOnly() {
        asked("shared", 6, (w, i) -> w.shared(i % 3, (i + 1 + i / 3) % 3));
    }

    static void promise13_asksOnly() {
        asked("never", 6, (w, i) -> w.never(i - 2));
    }

    static void promise14_asksOnly() {
        asked("market", 100, (w, i) -> w.market(i % 8, 1 + i % 6, i % 3));
    }

    static void promise15_asksOnly() {
        asked("can", 100, (w, i) -> w.can(i % 3, i));
    }

    static void promise16_asksOnly() {
        asked("month", 100, (w, i) -> w.month(83 * i, i % 4 - 1));
    }

    static void promise17_asksOnly() {
        asked("barred", 3, (w, i) -> w.barred());
    }

    static void promise18_asksOnly() {
        Bench.asked("why", () -> land(PEOPLE, "a01;h0;h12;b012;c3;e012;", SIGHTS, PAD), 6, (w, i) -> w.why(i));
    }

    static void promise19_asksOnly() {
        asked("common", 100, (w, i) -> w.common(1 + i % 7, 83 * i, i % 2));
    }

    static void promise20_asksOnly() {
        asked("wedding", 12, (w, i) -> w.wedding(i % 3, (i + 1 + i / 6) % 3, i % 2));
    }

    static void promise21_asksOnly() {
        asked("best", 100, (w, i) -> w.best(i, i % 2));
    }

    static void promise22_asksOnly() {
        asked("feast", 100, (w, i) -> w.feast(83 * i));
    }

    static void promise23_asksOnly() {
        asked("feasts", 8, (w, i) -> w.feasts(i));
    }

    static void promise24_asksOnly() {
        asked("poor", 3, (w, i) -> w.poor());
    }

    static void promise25_asksOnly() {
        Bench.asked("twins", () -> land("0 abcde 1,4 abcde 2,5 abcde 3", PLAN, SIGHTS, PAD), 6, (w, i) -> w.twins(i - 2));
    }

    static void promise26_asksOnly() {
        asked("oneOrder", 6, (w, i) -> w.oneOrder(i % 3, i % 2));
    }

    static void promise29_asksOnly() {
        asked("whose", 30, (w, i) -> w.whose(i - 2));
    }

    static void promise30_asksOnly() {
        asked("sure", 100, (w, i) -> w.sure(i));
    }

    static void promise31_asksOnly() {
        asked("chance", 100, (w, i) -> w.chance(i % 8, 83 * i, i / 8 % 2));
    }

    static void promise32_asksOnly() {
        asked("shares", 100, (w, i) -> w.shares(i % 3, 83 * i, i % 2));
    }

    static void promise33_asksOnly() {
        asked("year", 100, (w, i) -> w.year(83 * i, 1 + 10 * i, i % 3));
    }

    static void promise36_asksOnly() {
        asked("told", 30, (w, i) -> w.told(i));
        asked("told of orders", 100, (w, i) -> w.told(100 * (1 + i / 8 % 3) + i % 8));
        asked("told of works", 12, (w, i) -> w.told(1000 * (1 + i % 3) + i % 4));
    }

    public static void main(String[] args) {
        Bench.run(ChangesTests.class, 1, 36);
    }
}
