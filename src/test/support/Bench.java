import java.lang.reflect.InvocationTargetException;
import java.lang.reflect.Method;
import java.lang.reflect.Modifier;
import java.util.Arrays;
import java.util.Comparator;
import java.util.function.Supplier;
import java.util.function.ToLongFunction;
import java.util.stream.IntStream;

/**
 * What the tests of the bounds and of the changes share. A test is a method whose name begins with its promise
 * (promise05_...) and goes on with its case; all of them are run in the order of their names.
 */
final class Bench {
    static final int NONE = -6, UNKNOWN = -1, OUTSIDE = -2, STATE = -3, FULL = -4, NO = -5;
    static final long LOST = -1000000000000000000L;

    /** Nobody of these is there in lively(), and most of them are nobody at all. */
    static final int[] ABSENT = {
        3, 4, 5, 6, 7, 31, 32, 33, 64, 256, 65536, Integer.MAX_VALUE,
        -1, -2, -6, -32, -256, Integer.MIN_VALUE, Integer.MIN_VALUE + 1};

    /** Sets that lively() has not: the empty one, with some who are not there, with bits of nobody. */
    static final int[] BAD_SETS = {
        0, 8, 9, 15, 32, 63, 64, 65, 71, 128, 256, 65536, 1 << 30, -1, -8, Integer.MIN_VALUE,
        Integer.MIN_VALUE + 1, Integer.MAX_VALUE};

    private static String test = "";
    private static int checks = 0;
    private static int wrong = 0;

    private Bench() {
    }

    // ---- how a case is looked at

    static void due(String call, long got, long want) {
        checks++;
        if (got != want) {
            fail(call + " answered " + got + ", due is " + want);
        }
    }

    private static void fail(String what) {
        wrong++;
        System.out.println(test + ": " + what);
    }

    /** The call is refused with this answer, and changes nothing of the land. */
    static void refused(String call, Supplier<WeekOrders> land, ToLongFunction<WeekOrders> asked, long want) {
        makes(call, land, asked, want, land);
    }

    /** The call answers this, and makes of a land just what another one is. */
    static void makes(
            String call, Supplier<WeekOrders> land, ToLongFunction<WeekOrders> asked, long want,
            Supplier<WeekOrders> other) {
        WeekOrders w = land.get();
        due(call, asked.applyAsLong(w), want);
        same(call, trace(w), trace(other.get()));
    }

    private static void same(String call, String got, String want) {
        checks++;
        if (!got.equals(want)) {
            fail(call + " made " + got + ", due is " + want);
        }
    }

    /** A question in several forms, counted from 0 on. */
    interface Question {
        long ask(WeekOrders w, int form);
    }

    /** The question, asked twice in each form, answers the same and changes nothing of the land. */
    static void asked(String question, Supplier<WeekOrders> land, int forms, Question asked) {
        WeekOrders w = land.get();
        long[] answers = new long[forms];
        for (int form = 0; form < forms; form++) {
            answers[form] = asked.ask(w, form);
        }
        for (int form = 0; form < forms; form++) {
            due(question + " again, form " + form, asked.ask(w, form), answers[form]);
        }
        same(question, trace(w), trace(land.get()));
    }

    static void refused(String call, ToLongFunction<WeekOrders> asked, long want) {
        refused(call, Bench::lively, asked, want);
    }

    /** Numbers that are not among least to greatest: the nearest, some that wrap, the farthest. */
    static int[] outside(int least, int greatest) {
        IntStream some = IntStream.of(least - 1, greatest + 1, least - 2, greatest + 2,
            least - 32, least + 32, least + 64, least - 256, least + 256, least - 65536, least + 65536,
            Integer.MIN_VALUE, Integer.MIN_VALUE + least, Integer.MAX_VALUE);
        return some.filter(i -> i < least || i > greatest).toArray();
    }

    static void run(Class<?> tests, int firstPromise, int lastPromise) {
        Method[] methods = tests.getDeclaredMethods();
        Arrays.sort(methods, Comparator.comparing(Method::getName));
        boolean[] tested = new boolean[lastPromise + 1];
        int count = 0;
        for (Method method : methods) {
            if (method.getName().matches("promise\\d\\d_.*")) {
                int promise = Integer.parseInt(method.getName().substring(7, 9));
                if (promise <= lastPromise) {
                    tested[promise] = true;
                }
                count++;
                runOne(method);
            }
        }
        test = tests.getName();
        for (int promise = firstPromise; promise <= lastPromise; promise++) {
            if (!tested[promise]) {
                fail("no test of promise " + promise);
            }
        }
        System.out.println(count + " tests, " + checks + " answers looked at, " + wrong + " wrong");
        if (wrong != 0) {
            System.exit(1);
        }
    }

    private static void runOne(Method method) {
        test = method.getName();
        if (!Modifier.isStatic(method.getModifiers()) || method.getParameterCount() != 0) {
            fail("can't be run");
            return;
        }
        try {
            method.setAccessible(true);
            method.invoke(null);
        } catch (InvocationTargetException e) {
            fail("threw " + e.getCause());
        } catch (IllegalAccessException e) {
            fail("can't be run");
        }
    }

    // ---- what can be seen of a land

    /** All that tells two lands apart; what is on the pad and in the images comes to light at the end. */
    private static String trace(WeekOrders w) {
        StringBuilder text = new StringBuilder();
        seeAll(w, text);
        text.append(" faults ").append(w.fault(0)).append(' ').append(w.fault(1));
        text.append(" pad ").append(w.born(5, 7)).append(' ').append(w.plan()).append(' ').append(w.wipe());
        seeAll(w, text);
        for (int n = 0; n <= 1; n++) {
            text.append(" image ").append(n).append(": ").append(w.restore(n));
            seeAll(w, text);
        }
        return text.toString();
    }

    private static void seeAll(WeekOrders w, StringBuilder text) {
        for (int what = 0; what <= 3; what++) {
            text.append(' ').append(w.told(what));
        }
        for (int person = 0; person < 6; person++) {
            int days = w.told(20 + person);
            text.append(" person ").append(w.told(10 + person)).append(':');
            for (int place = 0; place < days; place++) {
                text.append(' ').append(w.told(100 * (1 + person) + place));
            }
        }
        for (int work = 0; work < w.told(2); work++) {
            text.append(" work ").append(w.told(1000 * (1 + work))).append(' ').append(w.told(1000 * (1 + work) + 1));
        }
        text.append(" whose");
        int fitting = Math.min(w.whose(-1), 6);
        for (int i = -1; i < fitting; i++) {
            text.append(' ').append(w.whose(i));
        }
    }

    // ---- lands

    static void say(WeekOrders w, String text) {
        for (int i = 0; i < text.length(); i++) {
            w.say(text.charAt(i));
        }
    }

    static WeekOrders saying(String text) {
        WeekOrders w = new WeekOrders();
        say(w, text);
        return w;
    }

    static void born(WeekOrders w, int person, String order, int birth) {
        say(w, order);
        due("born(" + person + ", " + birth + ") by " + order, w.born(person, birth), order.length());
    }

    static void plan(WeekOrders w, String text) {
        say(w, text);
        due("plan() by " + text, w.plan(), text.replaceAll("[^;]", "").length());
    }

    static WeekOrders one(String order, int birth) {
        WeekOrders w = new WeekOrders();
        born(w, 0, order, birth);
        return w;
    }

    /** Person 0 has day d mod 7 on date d; person 1 has day (d - 2) mod 5: one day on dates 7 to 11 of each 35. */
    static WeekOrders two() {
        WeekOrders w = one("abcdefg", 0);
        born(w, 1, "abcde", 2);
        return w;
    }

    /** Orders of 5, 6, 7 and 8 days that all four fall on one day only once in 840 dates: a, on the birth. */
    static WeekOrders rareFour(int birth) {
        WeekOrders w = one("abcde", birth);
        born(w, 1, "afbghc", birth);
        born(w, 2, "abdefgh", birth);
        born(w, 3, "abcdefgh", birth);
        return w;
    }

    /** The same, but all four fall on a on date 839 only, a date ahead of 840. */
    static WeekOrders rareFourLast() {
        WeekOrders w = one("bcdea", 0);
        born(w, 1, "fbghca", 0);
        born(w, 2, "bdefgha", 0);
        born(w, 3, "bcdefgha", 0);
        return w;
    }

    /** Six orders of which no two ever fall on one day: on date d person p has day (d + p) mod 7. */
    static WeekOrders sixApart() {
        WeekOrders w = new WeekOrders();
        for (int person = 0; person < 6; person++) {
            born(w, person, "abcdefgabcdef".substring(person, person + 7), 0);
        }
        return w;
    }

    /** Six people who always have the same day: d mod 7 on date d. */
    static WeekOrders sixAlike() {
        WeekOrders w = new WeekOrders();
        for (int person = 0; person < 6; person++) {
            born(w, person, "abcdefg", 0);
        }
        return w;
    }

    /** Three people, a plan, two sights, an image 0 of something else, no image 1, an order on the pad. */
    static WeekOrders lively() {
        return lively("hgfed");
    }

    static WeekOrders lively(String pad) {
        WeekOrders w = new WeekOrders();
        say(w, "cdefgh");
        w.born(3, 4);
        say(w, "c3;");
        w.plan();
        w.seen(5, 1);
        w.image(0);
        w.exile(3);
        w.forget();
        say(w, "abcdefg");
        w.born(0, 0);
        say(w, "abcde");
        w.born(1, 2);
        say(w, "hgfedcba");
        w.born(2, 9);
        say(w, "a01;b012;h2;");
        w.plan();
        w.seen(7, 1);
        w.seen(8, 0);
        say(w, pad);
        return w;
    }

    static WeekOrders livelyWithFullPad() {
        return lively("x".repeat(60));
    }

    static WeekOrders livelyWithSixSights() {
        WeekOrders w = lively();
        for (int i = 0; i < 4; i++) {
            w.seen(7, 1);
        }
        return w;
    }
}
