/**
 * The promises of the document one by one: ordinary inputs, the edges that it names, wrong inputs.
 * What is due was worked out by hand.
 */
public final class PromiseTests {
    private static final int NONE = -6, UNKNOWN = -1, OUTSIDE = -2, STATE = -3, FULL = -4, NO = -5;
    private static final long LOST = -1000000000000000000L;
    private static final int MIN = Integer.MIN_VALUE, MAX = Integer.MAX_VALUE;

    private static int checks = 0;
    private static int wrong = 0;

    private static void due(String call, long got, long want) {
        checks++;
        if (got != want) {
            wrong++;
            System.out.println(call + " answered " + got + ", due is " + want);
        }
    }

    private static void say(WeekOrders w, String text) {
        for (int i = 0; i < text.length(); i++) {
            w.say(text.charAt(i));
        }
    }

    private static void born(WeekOrders w, int person, String order, int birth) {
        say(w, order);
        due("born(" + person + ", " + birth + ") by " + order, w.born(person, birth), order.length());
    }

    private static void plan(WeekOrders w, String text, int works) {
        say(w, text);
        due("plan() by " + text, w.plan(), works);
    }

    /** Person 0 has day d mod 7 on date d; person 1 has day (d - 2) mod 5: one day on dates 7 to 11 of each 35. */
    private static WeekOrders two() {
        WeekOrders w = new WeekOrders();
        born(w, 0, "abcdefg", 0);
        born(w, 1, "abcde", 2);
        return w;
    }

    /** Orders of 5, 6, 7 and 8 days that all four fall on one day only once in 840 dates: a, on the birth. */
    private static WeekOrders rareFour(int birth) {
        WeekOrders w = new WeekOrders();
        born(w, 0, "abcde", birth);
        born(w, 1, "afbghc", birth);
        born(w, 2, "abdefgh", birth);
        born(w, 3, "abcdefgh", birth);
        return w;
    }

    private static WeekOrders rareSix() {
        WeekOrders w = rareFour(0);
        born(w, 4, "abcdefgh", 0);
        born(w, 5, "abcde", 0);
        return w;
    }

    /** Six orders of which no two ever fall on one day: on date d person p has day (d + p) mod 7. */
    private static WeekOrders sixApart() {
        WeekOrders w = new WeekOrders();
        for (int person = 0; person < 6; person++) {
            born(w, person, "abcdefgabcdef".substring(person, person + 7), 0);
        }
        return w;
    }

    private static void promise1NewObject() {
        WeekOrders w = new WeekOrders();
        for (int what = 0; what <= 3; what++) {
            due("1 told(" + what + ")", w.told(what), 0);
        }
        for (int person = 0; person < 6; person++) {
            due("1 today", w.today(person, 0), UNKNOWN);
            due("1 told birth", w.told(10 + person), OUTSIDE);
        }
        due("1 can", w.can(0, 0), UNKNOWN);
        due("1 restore", w.restore(0), STATE);
        due("1 restore", w.restore(1), STATE);
    }

    private static void promise2Say() {
        WeekOrders w = new WeekOrders();
        for (int sign : new int[] {32, 127, 0, -1, MIN, MAX}) {
            due("2 say(" + sign + ")", w.say(sign), OUTSIDE);
        }
        due("2 say(33)", w.say(33), 1);
        due("2 say(126)", w.say(126), 2);
        for (int i = 3; i <= 60; i++) {
            due("2 say", w.say('x'), i);
        }
        due("2 say too many", w.say('x'), FULL);
        due("2 say OUTSIDE ahead of FULL", w.say(127), OUTSIDE);
        due("2 told(0)", w.told(0), 60);
    }

    private static void promise3Wipe() {
        WeekOrders w = new WeekOrders();
        due("3 wipe nothing", w.wipe(), 0);
        say(w, "abc");
        due("3 wipe", w.wipe(), 3);
        due("3 wipe again", w.wipe(), 0);
        say(w, "hgfed");
        due("3 only new signs count", w.fault(0), NONE);
        due("3 born", w.born(0, 0), 5);
        due("3 the first is h", w.told(100), 7);
    }

    private static void fault(String text, int order, int plan) {
        WeekOrders w = new WeekOrders();
        say(w, text);
        due("4 fault(0) of " + text, w.fault(0), order);
        due("4 fault(1) of " + text, w.fault(1), plan);
        due("4 the pad stays", w.told(0), text.length());
    }

    private static void promise4Fault() {
        fault("", 0, NONE);
        fault("a", 1, 1);
        fault("abcd", 4, 1);
        fault("abcde", NONE, 1);
        fault("hgfedcba", NONE, 1);
        fault("abcdefgha", 8, 1);
        fault("abcdefghi", 8, 1);
        fault("abcda", 4, 1);
        fault("abcdei", 5, 1);
        fault("aa", 1, 1);
        fault("`", 0, 0);
        fault("i", 0, 0);
        fault("A", 0, 0);
        fault(";", 0, 0);
        fault("0", 0, 0);
        fault("a0", 1, 2);
        fault("a0;", 1, NONE);
        fault("h5;", 1, NONE);
        fault("a012345;", 1, NONE);
        fault("a0123455;", 1, 7);
        fault("a6;", 1, 1);
        fault("a/;", 1, 1);
        fault("a:;", 1, 1);
        fault("a06;", 1, 2);
        fault("a;", 1, 1);
        fault("ab", 2, 1);
        fault("a0b", 1, 2);
        fault("a00", 1, 2);
        fault("a10", 1, 2);
        fault("a0;;", 1, 3);
        fault("a0;0", 1, 3);
        fault("a0;b", 1, 4);
        fault("a5;b0;c3;d123;e;", 1, 15);
        fault("a0;a0;a0;a0;a0;a0;", 1, NONE);
        fault("a0;a0;a0;a0;a0;a0;a", 1, 18);
        fault("a0;a0;a0;a0;a0;a", 1, 16);
        fault("a012345;a012345;a012345;a012345;a012345;a012345;", 1, NONE);
        WeekOrders w = new WeekOrders();
        for (int how : new int[] {-1, 2, MIN, MAX}) {
            due("4 fault(" + how + ")", w.fault(how), OUTSIDE);
        }
    }

    private static void promise5Born() {
        WeekOrders w = new WeekOrders();
        due("5 empty pad", w.born(0, 0), NO);
        say(w, "abcd");
        due("5 too few", w.born(0, 0), NO);
        for (int person : new int[] {-1, 6, MIN, MAX}) {
            due("5 UNKNOWN first", w.born(person, 100), UNKNOWN);
        }
        for (int birth : new int[] {-1, 100, MIN, MAX}) {
            due("5 OUTSIDE ahead of NO", w.born(0, birth), OUTSIDE);
        }
        due("5 refused: nobody", w.told(1), 0);
        due("5 refused: the pad stays", w.told(0), 4);
        say(w, "e");
        due("5 born", w.born(5, 99), 5);
        due("5 the pad is empty", w.told(0), 0);
        due("5 there", w.told(1), 32);
        due("5 birth", w.told(15), 99);
        due("5 on his birth", w.today(5, 99), 0);
        born(w, 5, "hgfedcba", 0);
        due("5 anew: there", w.told(1), 32);
        due("5 anew: days", w.told(25), 8);
        due("5 anew: birth", w.told(15), 0);
        due("5 anew: order", w.told(607), 0);
        born(w, 0, "bcdefg", 1);
        due("5 two", w.told(1), 33);
    }

    private static void promise6Exile() {
        WeekOrders w = two();
        for (int person : new int[] {2, 5, 6, -1, MIN, MAX, 32}) {
            due("6 exile(" + person + ")", w.exile(person), UNKNOWN);
        }
        due("6 exile", w.exile(0), 1);
        due("6 who is there", w.told(1), 2);
        due("6 again", w.exile(0), UNKNOWN);
        due("6 the last", w.exile(1), 0);
        due("6 nobody", w.told(1), 0);
        due("6 no feast", w.feast(0), NONE);
    }

    private static void promise7Plan() {
        WeekOrders w = new WeekOrders();
        due("7 none", w.plan(), 0);
        plan(w, "a01;h5;", 2);
        due("7 the pad is empty", w.told(0), 0);
        due("7 works", w.told(2), 2);
        due("7 day", w.told(2000), 7);
        due("7 people", w.told(2001), 32);
        say(w, "b0;c");
        due("7 fault", w.plan(), NO);
        due("7 refused: the pad stays", w.told(0), 4);
        due("7 refused: the plan stays", w.told(2), 2);
        w.wipe();
        plan(w, "b23;", 1);
        due("7 another day", w.told(1000), 1);
        due("7 other people", w.told(1001), 12);
        due("7 only one", w.told(2000), OUTSIDE);
        due("7 an empty pad", w.plan(), 0);
        due("7 no works", w.told(2), 0);
        plan(w, "a0;b1;c2;d3;e4;f012345;", 6);
        due("7 the sixth", w.told(6000), 5);
        due("7 all people", w.told(6001), 63);
    }

    private static void promise8Today() {
        WeekOrders w = two();
        due("8 today(0, 0)", w.today(0, 0), 0);
        due("8 today(0, 6)", w.today(0, 6), 6);
        due("8 today(0, 7)", w.today(0, 7), 0);
        due("8 today(0, 9999)", w.today(0, 9999), 3);
        due("8 ahead of birth", w.today(1, 0), 3);
        due("8 a date ahead of birth", w.today(1, 1), 4);
        due("8 on birth", w.today(1, 2), 0);
        born(w, 2, "hacegbdf", 99);
        due("8 far ahead of birth", w.today(2, 0), 1);
        due("8 today(2, 91)", w.today(2, 91), 7);
        due("8 today(2, 98)", w.today(2, 98), 5);
        for (int person : new int[] {3, 6, -1, MIN, MAX}) {
            due("8 UNKNOWN first", w.today(person, -1), UNKNOWN);
        }
        for (int date : new int[] {-1, 10000, MIN, MAX}) {
            due("8 OUTSIDE", w.today(0, date), OUTSIDE);
        }
    }

    private static void promise9Same() {
        WeekOrders w = two();
        due("9 same(0, 0)", w.same(0, 0), 1);
        due("9 same(3, 0)", w.same(3, 0), 2);
        due("9 same(1, 0)", w.same(1, 0), 0);
        due("9 same(0, 7)", w.same(0, 7), 3);
        due("9 same(7, 7)", w.same(7, 7), 0);
        due("9 same(3, 9999)", w.same(3, 9999), 1);
        w.exile(0);
        due("9 one went", w.same(0, 7), 2);
        for (int day : new int[] {-1, 8, NONE, MIN, MAX}) {
            due("9 UNKNOWN first", w.same(day, -1), UNKNOWN);
        }
        for (int date : new int[] {-1, 10000, MIN, MAX}) {
            due("9 OUTSIDE", w.same(0, date), OUTSIDE);
        }
    }

    private static void promise10Next() {
        WeekOrders w = two();
        due("10 next(1, 0, 0)", w.next(1, 0, 0), 2);
        due("10 next(1, 0, 2)", w.next(1, 0, 2), 2);
        due("10 next(1, 0, 3)", w.next(1, 0, 3), 7);
        due("10 no such day of his", w.next(1, 5, 0), NONE);
        due("10 the last date", w.next(0, 3, 9999), 9999);
        due("10 beyond the last date", w.next(0, 4, 9999), NONE);
        due("10 next(0, 2, 9993)", w.next(0, 2, 9993), 9998);
        due("10 next(0, 5, 9994)", w.next(0, 5, 9994), 9994);
        due("10 next(0, 5, 9995)", w.next(0, 5, 9995), NONE);
        born(w, 2, "abcdefgh", 0);
        due("10 seven later", w.next(2, 7, 8), 15);
        for (int bad : new int[] {3, 6, -1, MIN, MAX}) {
            due("10 person UNKNOWN first", w.next(bad, 0, -1), UNKNOWN);
        }
        for (int bad : new int[] {-1, 8, MIN, MAX}) {
            due("10 day UNKNOWN first", w.next(0, bad, -1), UNKNOWN);
        }
        for (int bad : new int[] {-1, 10000, MIN, MAX}) {
            due("10 OUTSIDE", w.next(0, 0, bad), OUTSIDE);
        }
    }

    private static void promise11Meet() {
        WeekOrders w = two();
        due("11 meet from 0", w.meet(3, 0, 0), 7);
        due("11 its day", w.meet(3, 0, 1), 0);
        due("11 meet from 7", w.meet(3, 7, 0), 7);
        due("11 meet from 8", w.meet(3, 8, 0), 8);
        due("11 its day", w.meet(3, 8, 1), 1);
        due("11 meet from 12", w.meet(3, 12, 0), 42);
        due("11 beyond 9999", w.meet(3, 9999, 0), 10017);
        due("11 its day", w.meet(3, 9999, 1), 0);
        due("11 one alone", w.meet(2, 5, 0), 5);
        due("11 his day", w.meet(2, 5, 1), 3);
        born(w, 2, "bcdefga", 0);
        due("11 never", w.meet(5, 0, 0), NONE);
        due("11 never", w.meet(5, 0, 1), NONE);
        due("11 never all three", w.meet(7, 0, 0), NONE);
        for (int set : new int[] {0, 8, 11, 64, 65, -1, MIN, MAX}) {
            due("11 set " + set, w.meet(set, 0, 0), OUTSIDE);
        }
        for (int date : new int[] {-1, 10000, MIN, MAX}) {
            due("11 date " + date, w.meet(3, date, 0), OUTSIDE);
        }
        for (int what : new int[] {-1, 2, MIN, MAX}) {
            due("11 what " + what, w.meet(3, 0, what), OUTSIDE);
        }
        w.exile(1);
        due("11 one of it went", w.meet(3, 0, 0), OUTSIDE);
        w = rareFour(0);
        due("11 all six", rareSix().meet(63, 1, 0), 840);
        due("11 at once", w.meet(15, 0, 0), 0);
        due("11 839 later", w.meet(15, 1, 0), 840);
        due("11 839 later, beyond 9999", w.meet(15, 9241, 0), 10080);
        due("11 its day", w.meet(15, 9241, 1), 0);
    }

    private static void promise12Shared() {
        WeekOrders w = two();
        due("12 shared(0, 1)", w.shared(0, 1), 120);
        due("12 shared(1, 0)", w.shared(1, 0), 120);
        born(w, 2, "abcdefg", 7);
        due("12 always", w.shared(0, 2), 840);
        born(w, 3, "gabcdef", 0);
        due("12 never", w.shared(0, 3), 0);
        due("12 one and the same", w.shared(0, 0), UNKNOWN);
        for (int bad : new int[] {4, 6, -1, MIN, MAX}) {
            due("12 UNKNOWN first", w.shared(bad, 0), UNKNOWN);
            due("12 UNKNOWN second", w.shared(0, bad), UNKNOWN);
            due("12 UNKNOWN both", w.shared(bad, bad), UNKNOWN);
        }
    }

    private static void promise13Never() {
        WeekOrders w = two();
        due("13 all do", w.never(-1), 0);
        due("13 all do", w.never(0), NONE);
        born(w, 3, "bcdefga", 0);
        born(w, 5, "cdefgab", 0);
        due("13 how many", w.never(-1), 3);
        due("13 first", w.never(0), 3);
        due("13 second", w.never(1), 5);
        due("13 third", w.never(2), 35);
        due("13 no fourth", w.never(3), NONE);
        for (int bad : new int[] {-2, -6, MIN, MAX}) {
            due("13 never(" + bad + ")", w.never(bad), NONE);
        }
        w.exile(3);
        due("13 one went", w.never(-1), 1);
        due("13 one went", w.never(0), 5);
        w = sixApart();
        due("13 all fifteen", w.never(-1), 15);
        int i = 0;
        for (int person = 0; person < 6; person++) {
            for (int other = person + 1; other < 6; other++) {
                due("13 never(" + i + ") of fifteen", w.never(i), 10 * person + other);
                i++;
            }
        }
        due("13 no sixteenth", w.never(15), NONE);
        due("13 once in 840 is not never", rareFour(0).never(-1), 0);
    }

    private static void promise14Market() {
        WeekOrders w = two();
        due("14 by two: how many", w.market(0, 2, 0), 24);
        due("14 by two: first", w.market(0, 2, 1), 7);
        due("14 by two: row", w.market(0, 2, 2), 34);
        due("14 by one: how many", w.market(0, 1, 0), 264);
        due("14 by one: first", w.market(0, 1, 1), 0);
        due("14 by one: row", w.market(0, 1, 2), 4);
        due("14 by three: how many", w.market(0, 3, 0), 0);
        due("14 by three: first", w.market(0, 3, 1), NONE);
        due("14 by three: row", w.market(0, 3, 2), 840);
        due("14 by six", w.market(0, 6, 2), 840);
        due("14 day h", w.market(7, 1, 0), 0);
        for (int day : new int[] {-1, 8, NONE, MIN, MAX}) {
            due("14 UNKNOWN first", w.market(day, 0, 3), UNKNOWN);
        }
        for (int m : new int[] {-1, 0, 7, MIN, MAX}) {
            due("14 m " + m, w.market(0, m, 0), OUTSIDE);
        }
        for (int what : new int[] {-1, 3, MIN, MAX}) {
            due("14 what " + what, w.market(0, 1, what), OUTSIDE);
        }
        w = rareFour(50);
        due("14 once: how many", w.market(0, 4, 0), 1);
        due("14 once: first", w.market(0, 4, 1), 50);
        due("14 once: the row goes round", w.market(0, 4, 2), 839);
        due("14 the last of the 840", rareFour(0).market(0, 4, 2), 839);
        w = new WeekOrders();
        born(w, 0, "abcde", 0);
        due("14 one row and no more", w.market(4, 1, 2), 4);
        due("14 first at the end of a row", w.market(4, 1, 1), 4);
        for (int person = 1; person < 5; person++) {
            born(w, person, "abcde", person);
        }
        due("14 on all dates", w.market(0, 1, 0), 840);
        due("14 on all dates: no row", w.market(0, 1, 2), 0);
        due("14 never two", w.market(0, 2, 2), 840);
        due("14 six of six", rareSix().market(0, 6, 0), 1);
    }

    private static void promise15Can() {
        WeekOrders w = two();
        plan(w, "a01;h0;a02;f0;", 4);
        due("15 can(0, 7)", w.can(0, 7), 1);
        due("15 only one has it", w.can(0, 0), 0);
        due("15 only the other has it", w.can(0, 2), 0);
        due("15 nobody has it", w.can(0, 1), 0);
        due("15 far", w.can(0, 7 + 35 * 285), 1);
        due("15 day h", w.can(1, 7), 0);
        due("15 one is not there", w.can(2, 7), 0);
        due("15 f of 0", w.can(3, 5), 1);
        for (int work : new int[] {-1, 4, 6, MIN, MAX}) {
            due("15 UNKNOWN first", w.can(work, -1), UNKNOWN);
        }
        for (int date : new int[] {-1, 10000, MIN, MAX}) {
            due("15 OUTSIDE", w.can(0, date), OUTSIDE);
        }
        w.exile(1);
        due("15 one went", w.can(0, 7), 0);
    }

    private static void month(WeekOrders w, int date, int most, int... dates) {
        due("16 month(" + date + ", -1)", w.month(date, -1), most);
        for (int work = 0; work < dates.length; work++) {
            due("16 month(" + date + ", " + work + ")", w.month(date, work), dates[work]);
        }
    }

    private static void promise16Month() {
        WeekOrders w = two();
        month(w, 0, 0);
        due("16 UNKNOWN without a plan", w.month(0, 0), UNKNOWN);
        plan(w, "a0;a0;a01;", 3);
        month(w, 0, 3, 0, 14, 7);
        month(w, 1, 3, 14, 21, 7);
        month(w, 8, 2, 14, 21, NONE);
        month(w, 13, 3, 14, 21, 42);
        month(w, 12, 2, 14, 21, NONE);
        plan(w, "a01;a01;", 2);
        month(w, 0, 1, 7, NONE);
        plan(w, "a01;a0;a0;a0;a0;a0;", 6);
        month(w, 0, 5, 7, 0, 14, 21, 28, NONE);
        plan(w, "a0;b1;", 2);
        month(w, 0, 2, 0, 3);
        month(w, 9970, 2, 9975, 9973);
        plan(w, "d0;e0;d0;", 3);
        month(w, 9970, 3, 9971, 9972, 9978);
        plan(w, "h0;c2;", 2);
        month(w, 0, 0, NONE, NONE);
        for (int work : new int[] {-2, 2, MIN, MAX}) {
            due("16 UNKNOWN first", w.month(-1, work), UNKNOWN);
        }
        for (int date : new int[] {-1, 9971, MIN, MAX}) {
            due("16 OUTSIDE", w.month(date, -1), OUTSIDE);
            due("16 OUTSIDE", w.month(date, 0), OUTSIDE);
        }
        born(w, 2, "abcdefg", 0);
        born(w, 3, "abcde", 2);
        plan(w, "a0123;a01;a23;", 3);
        month(w, 0, 2, NONE, 7, 7);
        plan(w, "a0;a2;a1;", 3);
        month(w, 0, 3, 0, 0, 2);
        plan(w, "a0;b01;a012;", 3);
        month(w, 5, 3, 14, 8, 7);
        month(w, 40, 3, 49, 43, 42);
        earlyAheadOfMore();
    }

    /** The first work's three dates are the only dates of the three other works: one must fail. */
    private static void earlyAheadOfMore() {
        WeekOrders w = new WeekOrders();
        born(w, 0, "abcdefgh", 0);
        born(w, 1, "abcde", 3);
        born(w, 2, "abcde", 1);
        born(w, 3, "abcde", 4);
        plan(w, "a0;a01;a02;a03;", 4);
        month(w, 1, 3, 8, NONE, 16, 24);
        plan(w, "a03;a02;a01;a0;", 4);
        month(w, 1, 3, 24, 16, 8, NONE);
        month(w, 0, 4, 24, 16, 8, 0);
    }

    private static void promise17Barred() {
        WeekOrders w = two();
        due("17 no plan", w.barred(), 0);
        plan(w, "a01;h0;f01;a2;g0;e1;", 6);
        due("17 barred", w.barred(), 2 + 4 + 8);
        born(w, 2, "bcdefga", 0);
        due("17 another is there", w.barred(), 2 + 4);
        w.exile(1);
        due("17 one went", w.barred(), 1 + 2 + 4 + 32);
        w = rareFour(1);
        plan(w, "a0123;b0123;", 2);
        due("17 once in 840", w.barred(), 2);
        w.image(0);
        w = rareFour(0);
        plan(w, "a0123;", 1);
        due("17 on date 0", w.barred(), 0);
    }

    private static void promise18Why() {
        WeekOrders w = two();
        born(w, 3, "bcdefga", 0);
        born(w, 4, "hgfedcb", 0);
        plan(w, "a01;h0;f01;a034;b034;g45;", 6);
        due("18 not barred", w.why(0), NO);
        due("18 who has no h", w.why(1), 0);
        due("18 who has no f", w.why(2), 11);
        due("18 who has no a, ahead of two", w.why(3), 44);
        due("18 two", w.why(4), 3);
        due("18 one is not there", w.why(5), STATE);
        for (int work : new int[] {-1, 6, MIN, MAX}) {
            due("18 UNKNOWN", w.why(work), UNKNOWN);
        }
        plan(w, "a013;h0134;h34;", 3);
        due("18 the first two", w.why(0), 3);
        due("18 the least of three", w.why(1), 0);
        due("18 the third person", w.why(2), 33);
        w.exile(3);
        due("18 one went", w.why(0), STATE);
        due("18 one of four went", w.why(1), STATE);
        w = rareFour(0);
        plan(w, "b0123;", 1);
        due("18 orders of 6 and 8", w.why(0), 13);
        w = sixApart();
        plan(w, "a01;a12;a45;a012345;", 4);
        due("18 the first and the second", w.why(0), 1);
        due("18 the second and the third", w.why(1), 12);
        due("18 the last two", w.why(2), 45);
        due("18 the first two of all", w.why(3), 1);
    }

    private static void promise19Common() {
        WeekOrders w = two();
        due("19 from 0: one", w.common(3, 0, 0), 1);
        due("19 from 0: at once, a", w.common(3, 0, 1), 0);
        due("19 from 1: nobody on 7", w.common(3, 1, 0), 0);
        due("19 from 1: six later", w.common(3, 1, 1), 600);
        due("19 from 4", w.common(3, 4, 1), 300);
        due("19 from 9", w.common(3, 9, 0), 0);
        due("19 from 9: c at once", w.common(3, 9, 1), 2);
        due("19 one alone", w.common(2, 0, 0), 0);
        due("19 one alone: his day", w.common(2, 0, 1), 3);
        due("19 the last date", w.common(3, 9990, 0), 1);
        due("19 the last date: when", w.common(3, 9990, 1), 1);
        born(w, 2, "hacdefg", 0);
        due("19 from 0: c of the first and the third", w.common(7, 0, 0), 1);
        due("19 from 0: two later", w.common(7, 0, 1), 202);
        due("19 from 2: c of the first and the third", w.common(7, 2, 0), 1);
        due("19 from 2: at once", w.common(7, 2, 1), 2);
        due("19 of one who is not of the set", w.common(2, 2, 0), 0);
        born(w, 0, "bcdefga", 0);
        born(w, 1, "hacbdef", 0);
        born(w, 2, "cdefgab", 0);
        due("19 two of three", w.common(7, 3, 0), 2);
        due("19 two of three: the least day", w.common(7, 3, 1), 1);
        born(w, 5, "abcdefg", 4);
        due("19 another's day is dearer", w.common(7, 4, 0), 2);
        due("19 another's day is dearer: when", w.common(7, 4, 1), 3);
        due("19 five of six", sixApart().common(63, 0, 0), 5);
        due("19 five of six: the least day", sixApart().common(63, 0, 1), 0);
        due("19 from 6: five of six", sixApart().common(63, 1, 1), 1);
        for (int set : new int[] {0, 8, 9, 64, -1, MIN, MAX}) {
            due("19 set " + set, w.common(set, 0, 0), OUTSIDE);
        }
        for (int date : new int[] {-1, 9991, 9999, MIN, MAX}) {
            due("19 date " + date, w.common(3, date, 0), OUTSIDE);
        }
        for (int what : new int[] {-1, 2, MIN, MAX}) {
            due("19 what " + what, w.common(3, 0, what), OUTSIDE);
        }
    }

    private static void promise20Wedding() {
        WeekOrders w = two();
        due("20 five shared: cost", w.wedding(0, 1, 0), 0);
        due("20 five shared: how", w.wedding(0, 1, 1), 0);
        born(w, 2, "abcdh", 0);
        due("20 four shared: cost", w.wedding(0, 2, 0), 0);
        due("20 four shared: how", w.wedding(2, 0, 1), 0);
        born(w, 3, "abcfh", 0);
        due("20 three shared: cost", w.wedding(0, 3, 0), 25);
        due("20 three shared: how", w.wedding(0, 3, 1), 1);
        due("20 turned: how", w.wedding(3, 0, 1), 1);
        born(w, 4, "abcde", 3);
        due("20 none of 28: cost", w.wedding(0, 4, 0), 28);
        due("20 none of 28: how", w.wedding(0, 4, 1), 1);
        due("20 one and the same", w.wedding(0, 0, 0), UNKNOWN);
        for (int bad : new int[] {5, 6, -1, MIN, MAX}) {
            due("20 UNKNOWN first", w.wedding(bad, 0, 2), UNKNOWN);
            due("20 UNKNOWN second", w.wedding(0, bad, 2), UNKNOWN);
        }
        for (int what : new int[] {-1, 2, MIN, MAX}) {
            due("20 what " + what, w.wedding(0, 1, what), OUTSIDE);
        }
        due("20 nobody changed", w.told(300), 0);
    }

    private static void promise21Best() {
        WeekOrders w = new WeekOrders();
        due("21 nobody: how many", w.best(99, 0), 14);
        due("21 nobody: which", w.best(99, 1), 0);
        born(w, 0, "cdefgab", 10);
        due("21 one forth", w.best(12, 0), 14);
        due("21 one forth: which", w.best(12, 1), 4);
        due("21 ahead of him", w.best(9, 1), 1);
        w.exile(0);
        born(w, 1, "gfedcba", 0);
        due("21 one back", w.best(0, 0), 14);
        due("21 one back: which", w.best(0, 1), 16);
        due("21 a date later", w.best(1, 1), 15);
        born(w, 0, "abcdefg", 0);
        due("21 forth and back: how many", w.best(0, 0), 2);
        due("21 forth and back: the least", w.best(0, 1), 0);
        born(w, 1, "bcdefga", 0);
        due("21 two forth: by none forth, two back", w.best(0, 0), 2);
        due("21 two forth: which", w.best(0, 1), 10);
        born(w, 2, "hgfed", 0);
        due("21 with another who has only some", w.best(0, 0), 2);
        due("21 with another who has only some: which", w.best(0, 1), 10);
        born(w, 0, "hbcdefga", 0);
        w.exile(1);
        w.exile(2);
        due("21 day h is nobody's", w.best(0, 0), 7);
        due("21 day h is nobody's: which", w.best(0, 1), 0);
        for (int birth : new int[] {-1, 100, MIN, MAX}) {
            due("21 birth " + birth, w.best(birth, 0), OUTSIDE);
        }
        for (int what : new int[] {-1, 2, MIN, MAX}) {
            due("21 what " + what, w.best(0, what), OUTSIDE);
        }
    }

    private static void promise22Feast() {
        WeekOrders w = two();
        due("22 of two the least", w.feast(0), 0);
        due("22 of two the least", w.feast(5), 3);
        due("22 both", w.feast(7), 0);
        due("22 far", w.feast(9999), 2);
        born(w, 2, "abcde", 2);
        due("22 most", w.feast(0), 3);
        born(w, 3, "abcdefg", 0);
        due("22 two and two", w.feast(0), 0);
        due("22 two and two, turned", w.feast(5), 3);
        for (int date : new int[] {-1, 10000, MIN, MAX}) {
            due("22 OUTSIDE", w.feast(date), OUTSIDE);
        }
        w = new WeekOrders();
        due("22 nobody", w.feast(0), NONE);
        due("22 OUTSIDE though nobody is there", w.feast(10000), OUTSIDE);
        born(w, 5, "hgfed", 0);
        due("22 day h", w.feast(0), 7);
    }

    private static void promise23Feasts() {
        WeekOrders w = new WeekOrders();
        for (int day = 0; day < 8; day++) {
            due("23 nobody", w.feasts(day), 0);
        }
        born(w, 3, "hgfed", 0);
        due("23 day h", w.feasts(7), 168);
        due("23 day c", w.feasts(2), 0);
        w = two();
        // On a date the lesser of the two days, by 35 dates.
        int[] due = {11, 9, 7, 5, 3, 0, 0, 0};
        for (int day = 0; day < 8; day++) {
            due("23 feasts(" + day + ")", w.feasts(day), 24 * due[day]);
        }
        for (int day : new int[] {-1, 8, NONE, MIN, MAX}) {
            due("23 UNKNOWN", w.feasts(day), UNKNOWN);
        }
    }

    private static void promise24Poor() {
        WeekOrders w = new WeekOrders();
        due("24 nobody", w.poor(), 0);
        born(w, 0, "abcdefg", 0);
        due("24 one", w.poor(), 0);
        born(w, 2, "bcdefga", 0);
        due("24 each one's day at times", w.poor(), 0);
        born(w, 5, "abcdefg", 0);
        due("24 two against one", w.poor(), 4);
        born(w, 4, "cdefgab", 0);
        due("24 two against two others", w.poor(), 4 + 16);
        w.exile(0);
        due("24 each alone", w.poor(), 0);
        born(w, 0, "abcde", 0);
        born(w, 1, "abcde", 0);
        born(w, 2, "hgfed", 1);
        born(w, 4, "hgfed", 3);
        w.exile(5);
        due("24 one of them has e on date 4 as most do", w.poor(), 16);
    }

    private static void promise25Twins() {
        WeekOrders w = two();
        due("25 none", w.twins(-1), 0);
        due("25 none", w.twins(0), NONE);
        born(w, 2, "abcde", 3);
        due("25 a date later", w.twins(-1), 1);
        due("25 a date later", w.twins(0), 12);
        born(w, 3, "bcdea", 3);
        due("25 as the lesser", w.twins(-1), 2);
        born(w, 4, "abcde", 1);
        due("25 ahead", w.twins(-1), 4);
        due("25 first", w.twins(0), 12);
        due("25 second", w.twins(1), 14);
        due("25 third", w.twins(2), 23);
        due("25 fourth", w.twins(3), 34);
        due("25 no fifth", w.twins(4), NONE);
        for (int i : new int[] {-2, -6, MIN, MAX}) {
            due("25 twins(" + i + ")", w.twins(i), NONE);
        }
        w.exile(3);
        due("25 one went", w.twins(-1), 2);
        w = new WeekOrders();
        born(w, 0, "abcde", 0);
        born(w, 1, "abcdf", 1);
        born(w, 2, "abcdef", 1);
        born(w, 3, "abcde", 0);
        born(w, 4, "abcde", 2);
        born(w, 5, "abcde", 50);
        due("25 not quite", w.twins(-1), 0);
        born(w, 1, "abcde", 99);
        due("25 round the other way", w.twins(-1), 3);
        due("25 round: first", w.twins(0), 1);
        due("25 round: second", w.twins(1), 13);
        due("25 round: third", w.twins(2), 15);
    }

    private static void promise26OneOrder() {
        WeekOrders w = new WeekOrders();
        born(w, 0, "abcdefg", 0);
        due("26 one: won", w.oneOrder(0, 0), 0);
        due("26 one: lost", w.oneOrder(0, 1), 0);
        born(w, 1, "abcde", 2);
        due("26 two: won", w.oneOrder(0, 0), 23);
        due("26 two: lost", w.oneOrder(0, 1), 23);
        due("26 two: lost by the other", w.oneOrder(1, 1), 23);
        born(w, 2, "abcdefg", 7);
        due("26 three: won", w.oneOrder(0, 0), 23);
        due("26 three: lost by the first", w.oneOrder(0, 1), 23);
        due("26 three: lost by the second", w.oneOrder(1, 1), 46);
        due("26 three: won by any", w.oneOrder(1, 0), 23);
        born(w, 5, "bcdefga", 0);
        due("26 four: won", w.oneOrder(5, 0), 28);
        due("26 unchanged", w.shared(0, 1), 120);
        for (int person : new int[] {3, 6, -1, MIN, MAX}) {
            due("26 UNKNOWN first", w.oneOrder(person, 2), UNKNOWN);
        }
        for (int what : new int[] {-1, 2, MIN, MAX}) {
            due("26 what " + what, w.oneOrder(0, what), OUTSIDE);
        }
    }

    private static void promise27Seen() {
        WeekOrders w = new WeekOrders();
        for (int date : new int[] {-1, 10000, MIN, MAX}) {
            due("27 date " + date, w.seen(date, 0), OUTSIDE);
        }
        for (int shut : new int[] {-1, 2, MIN, MAX}) {
            due("27 shut " + shut, w.seen(0, shut), OUTSIDE);
        }
        for (int i = 1; i <= 6; i++) {
            due("27 seen", w.seen(i == 6 ? 9999 : 0, i & 1), i);
        }
        due("27 full", w.seen(0, 0), FULL);
        due("27 OUTSIDE ahead of FULL", w.seen(0, 2), OUTSIDE);
        due("27 OUTSIDE ahead of FULL", w.seen(10000, 0), OUTSIDE);
        due("27 told(3)", w.told(3), 6);
    }

    private static void promise28Forget() {
        WeekOrders w = two();
        due("28 none", w.forget(), 0);
        w.seen(0, 1);
        w.seen(1, 0);
        due("28 two", w.forget(), 2);
        due("28 again", w.forget(), 0);
        due("28 all fit", w.whose(-1), 16);
        due("28 seen", w.seen(7, 1), 1);
        due("28 only the new one counts", w.whose(-1), 2);
    }

    private static void promise29Whose() {
        WeekOrders w = new WeekOrders();
        due("29 nobody", w.whose(-1), 0);
        due("29 nobody", w.whose(0), NONE);
        w = two();
        due("29 all", w.whose(-1), 16);
        due("29 h of the first", w.whose(7), 7);
        due("29 a of the second", w.whose(8), 10);
        due("29 the last", w.whose(15), 17);
        due("29 no more", w.whose(16), NONE);
        w.seen(0, 1);
        due("29 shut on 0", w.whose(-1), 2);
        due("29 a of the first", w.whose(0), 0);
        due("29 d of the second", w.whose(1), 13);
        w.seen(7, 0);
        due("29 open on 7", w.whose(-1), 1);
        due("29 d of the second", w.whose(0), 13);
        due("29 no more", w.whose(1), NONE);
        w.seen(0, 0);
        due("29 both", w.whose(-1), 0);
        w.forget();
        w.seen(0, 0);
        due("29 open on 0", w.whose(-1), 14);
        due("29 b of the first", w.whose(0), 1);
        due("29 e of the second", w.whose(10), 14);
        due("29 h, though it is not of his order", w.whose(6), 7);
        for (int i : new int[] {-2, -6, MIN, MAX}) {
            due("29 whose(" + i + ")", w.whose(i), NONE);
        }
        w.exile(0);
        due("29 one went", w.whose(-1), 7);
        due("29 one went: first", w.whose(0), 10);
    }

    private static void promise30Sure() {
        WeekOrders w = new WeekOrders();
        due("30 nobody", w.sure(0), NONE);
        w = two();
        due("30 some", w.sure(0), 2);
        w.seen(0, 1);
        due("30 both again", w.sure(0), 1);
        due("30 none", w.sure(1), 0);
        due("30 one of two", w.sure(7), 2);
        due("30 one of two", w.sure(10), 2);
        due("30 both on 35", w.sure(35), 1);
        w.seen(7, 0);
        due("30 only d of the second", w.sure(10), 1);
        due("30 only d of the second", w.sure(7), 0);
        due("30 the last date", w.sure(9999), 0);
        w.seen(7, 1);
        due("30 nothing fits", w.sure(7), NONE);
        for (int date : new int[] {-1, 10000, MIN, MAX}) {
            due("30 OUTSIDE", w.sure(date), OUTSIDE);
        }
    }

    private static void promise31Chance() {
        WeekOrders w = new WeekOrders();
        for (int date : new int[] {0, 3, 6, 9999}) {
            due("31 upper", w.chance(0, date, 0), 1);
            due("31 lower", w.chance(0, date, 1), 7);
            due("31 g: lower", w.chance(6, date, 1), 7);
            due("31 h: upper", w.chance(7, date, 0), 0);
            due("31 h: lower", w.chance(7, date, 1), 1);
        }
        for (int day : new int[] {-1, 8, NONE, MIN, MAX}) {
            due("31 UNKNOWN first", w.chance(day, -1, 2), LOST + UNKNOWN);
        }
        for (int date : new int[] {-1, 10000, MIN, MAX}) {
            due("31 date " + date, w.chance(0, date, 0), LOST + OUTSIDE);
        }
        for (int part : new int[] {-1, 2, MIN, MAX}) {
            due("31 part " + part, w.chance(0, 0, part), LOST + OUTSIDE);
        }
    }

    private static void promise32Shares() {
        WeekOrders w = two();
        due("32 upper", w.shares(0, 0, 0), 1);
        due("32 lower", w.shares(0, 0, 1), 7);
        born(w, 2, "abcdh", 0);
        due("32 on his d: upper", w.shares(2, 3, 0), 1);
        due("32 on his h: upper", w.shares(2, 4, 0), 0);
        due("32 on his h: lower", w.shares(2, 4, 1), 1);
        due("32 on his h: upper", w.shares(2, 9999, 0), 0);
        for (int person : new int[] {3, 6, -1, MIN, MAX}) {
            due("32 UNKNOWN first", w.shares(person, -1, 2), LOST + UNKNOWN);
        }
        for (int date : new int[] {-1, 10000, MIN, MAX}) {
            due("32 date " + date, w.shares(0, date, 0), LOST + OUTSIDE);
        }
        for (int part : new int[] {-1, 2, MIN, MAX}) {
            due("32 part " + part, w.shares(0, 0, part), LOST + OUTSIDE);
        }
    }

    private static void year(WeekOrders w, int seed, int m, int meetings, int days, int between) {
        due("33 year(" + seed + ", " + m + ", 0)", w.year(seed, m, 0), meetings);
        due("33 year(" + seed + ", " + m + ", 1)", w.year(seed, m, 1), days);
        due("33 year(" + seed + ", " + m + ", 2)", w.year(seed, m, 2), between);
    }

    /** By seed 0 these are drawn from date 0 on: 2 and 0, 2 and 1, 2 and 5, 4 and 3, 1 and 0, 1 and 4. */
    private static void promise33Year() {
        WeekOrders w = new WeekOrders();
        year(w, 0, 999, 0, 0, 0);
        born(w, 0, "abcdefg", 0);
        born(w, 2, "abcdefg", 0);
        year(w, 0, 1, 1, 1, 0);
        year(w, 0, 5, 1, 1, 0);
        born(w, 1, "abcdefg", 0);
        year(w, 0, 2, 2, 2, 1);
        year(w, 0, 4, 2, 2, 1);
        year(w, 0, 5, 3, 3, 3);
        born(w, 2, "bcadefg", 0);
        year(w, 0, 5, 1, 1, 0);
        born(w, 2, "bcadefg", 0);
        born(w, 4, "gfedcba", 0);
        year(w, 0, 6, 1, 1, 0);
        born(w, 4, "fbcdega", 0);
        born(w, 3, "fbcdega", 0);
        year(w, 0, 4, 1, 1, 0);
        for (int seed : new int[] {-1, 10000, MIN, MAX}) {
            due("33 seed " + seed, w.year(seed, 1, 0), OUTSIDE);
        }
        for (int m : new int[] {-1, 0, 1000, MIN, MAX}) {
            due("33 m " + m, w.year(0, m, 0), OUTSIDE);
        }
        for (int what : new int[] {-1, 3, MIN, MAX}) {
            due("33 what " + what, w.year(0, 1, what), OUTSIDE);
        }
        due("33 the last seed", w.year(9999, 1, 0) >= 0 ? 1 : 0, 1);
    }

    private static void promise34Image() {
        WeekOrders w = two();
        for (int n : new int[] {-1, 2, MIN, MAX}) {
            due("34 image(" + n + ")", w.image(n), OUTSIDE);
        }
        due("34 refused: not kept", w.restore(0), STATE);
        due("34 image(1)", w.image(1), 1);
        due("34 the other was not kept", w.restore(0), STATE);
        born(w, 0, "hgfed", 5);
        due("34 image(0)", w.image(0), 1);
        w.exile(0);
        due("34 image(0) anew", w.image(0), 1);
        w.restore(1);
        due("34 what was kept in 1", w.told(1), 3);
        due("34 what was kept in 1", w.told(20), 7);
        w.restore(0);
        due("34 what was kept in 0", w.told(1), 2);
    }

    private static void promise35Restore() {
        WeekOrders w = two();
        plan(w, "a01;c1;", 2);
        w.seen(7, 1);
        w.seen(8, 0);
        say(w, "xyz");
        for (int n : new int[] {-1, 2, MIN, MAX}) {
            due("35 restore(" + n + ")", w.restore(n), OUTSIDE);
        }
        due("35 not kept", w.restore(1), STATE);
        w.image(1);
        w.wipe();
        born(w, 0, "hgfed", 5);
        w.exile(1);
        born(w, 2, "abcdefgh", 1);
        plan(w, "b2;", 1);
        w.forget();
        w.seen(9, 1);
        say(w, "uv");
        due("35 restore(1)", w.restore(1), 1);
        due("35 the pad stays", w.told(0), 2);
        due("35 people", w.told(1), 3);
        due("35 works", w.told(2), 2);
        due("35 a day", w.told(1000), 0);
        due("35 people of a work", w.told(1001), 3);
        due("35 sights", w.told(3), 2);
        due("35 birth", w.told(10), 0);
        due("35 days", w.told(20), 7);
        due("35 order", w.told(106), 6);
        due("35 birth", w.told(11), 2);
        due("35 who fits", w.whose(-1), 2);
        due("35 who fits", w.whose(0), 0);
        due("35 who fits", w.whose(1), 10);
        w.exile(0);
        w.forget();
        due("35 once more", w.restore(1), 1);
        due("35 once more: people", w.told(1), 3);
        due("35 once more: sights", w.told(3), 2);
        w.seen(0, 0);
        due("35 what comes then is not in the image", w.restore(1), 1);
        due("35 sights", w.told(3), 2);
        allRestored();
    }

    /** Six people with eight days each, six works, six sights. */
    private static void allRestored() {
        WeekOrders w = new WeekOrders();
        for (int person = 0; person < 6; person++) {
            born(w, person, "abcdefghabcdefgh".substring(person, person + 8), 10 + person);
            w.seen(person, person & 1);
        }
        plan(w, "a0;b1;c2;d3;e4;f5;", 6);
        w.image(0);
        for (int person = 0; person < 6; person++) {
            born(w, person, "hgfed", 0);
        }
        plan(w, "h012345;h012345;h012345;h012345;h012345;h012345;", 6);
        w.forget();
        for (int i = 0; i < 6; i++) {
            w.seen(0, 1);
        }
        w.restore(0);
        for (int i = 0; i < 6; i++) {
            due("35 all: birth", w.told(10 + i), 10 + i);
            due("35 all: days", w.told(20 + i), 8);
            for (int place = 0; place < 8; place++) {
                due("35 all: order", w.told(100 * (1 + i) + place), (i + place) % 8);
            }
            due("35 all: day of a work", w.told(1000 * (1 + i)), i);
            due("35 all: people of a work", w.told(1000 * (1 + i) + 1), 1 << i);
        }
        // Whose day comes every eighth date can't be it on dates 1, 3 and 5.
        due("35 all: nobody fits", w.whose(-1), 0);
    }

    private static WeekOrders landToTell() {
        WeekOrders w = new WeekOrders();
        born(w, 2, "abcde", 7);
        born(w, 5, "hgfedcba", 99);
        plan(w, "a2;h25;", 2);
        w.seen(3, 1);
        say(w, "xy");
        return w;
    }

    private static void promise36Told() {
        WeekOrders w = landToTell();
        int[] whats = {0, 1, 2, 3, 12, 15, 22, 25, 300, 304, 600, 607, 1000, 1001, 2000, 2001};
        int[] due = {2, 36, 2, 1, 7, 99, 5, 8, 0, 4, 7, 0, 0, 4, 7, 36};
        for (int i = 0; i < whats.length; i++) {
            due("36 told(" + whats[i] + ")", w.told(whats[i]), due[i]);
        }
        for (int what : new int[] {MIN, MIN + 9, MIN + 22, MAX, MAX - 20}) {
            due("36 told(" + what + ")", w.told(what), OUTSIDE);
        }
        w.exile(2);
        due("36 one went: birth", w.told(12), OUTSIDE);
        due("36 one went: days", w.told(22), OUTSIDE);
        due("36 one went: order", w.told(300), OUTSIDE);
        allOtherNumbers(whats);
    }

    private static void allOtherNumbers(int[] whats) {
        WeekOrders w = landToTell();
        for (int what = -2500; what < 10000; what++) {
            // An object is used for 512 calls at most.
            if (what % 400 == 0) {
                w = landToTell();
            }
            boolean answered = what > 300 && what < 304 || what > 600 && what < 607;
            for (int known : whats) {
                answered |= known == what;
            }
            if (!answered) {
                due("36 told(" + what + ")", w.told(what), OUTSIDE);
            }
        }
    }

    private static void constants() {
        due("NONE", WeekOrders.NONE, NONE);
        due("UNKNOWN", WeekOrders.UNKNOWN, UNKNOWN);
        due("OUTSIDE", WeekOrders.OUTSIDE, OUTSIDE);
        due("STATE", WeekOrders.STATE, STATE);
        due("FULL", WeekOrders.FULL, FULL);
        due("NO", WeekOrders.NO, NO);
        due("LOST", WeekOrders.LOST, LOST);
    }

    private static void peopleAndDays() {
        promise1NewObject();
        promise2Say();
        promise3Wipe();
        promise4Fault();
        promise5Born();
        promise6Exile();
        promise7Plan();
        promise8Today();
        promise9Same();
        promise10Next();
        promise11Meet();
        promise12Shared();
        promise13Never();
        promise14Market();
    }

    private static void worksAndFeasts() {
        promise15Can();
        promise16Month();
        promise17Barred();
        promise18Why();
        promise19Common();
        promise20Wedding();
        promise21Best();
        promise22Feast();
        promise23Feasts();
        promise24Poor();
        promise25Twins();
        promise26OneOrder();
    }

    private static void wellsAndYears() {
        promise27Seen();
        promise28Forget();
        promise29Whose();
        promise30Sure();
        promise31Chance();
        promise32Shares();
        promise33Year();
        promise34Image();
        promise35Restore();
        promise36Told();
    }

    public static void main(String[] args) {
        constants();
        peopleAndDays();
        worksAndFeasts();
        wellsAndYears();
        System.out.println(checks + " answers looked at, " + wrong + " wrong");
        if (wrong != 0) {
            System.exit(1);
        }
    }
}
