import java.lang.management.ManagementFactory;

/**
 * All calls of one run live in one room: so an object makes its rows once, and calls make nothing,
 * but for the two images when they are first kept.
 */
public final class RoomTests {
    private static final com.sun.management.ThreadMXBean BEAN =
        (com.sun.management.ThreadMXBean) ManagementFactory.getThreadMXBean();

    /** What measuring itself may make. */
    private static final long SLACK = 2000;

    private static int wrong = 0;

    private static long made() {
        return BEAN.getThreadAllocatedBytes(Thread.currentThread().getId());
    }

    private static void atMost(String what, long bytes, long most) {
        if (bytes > most) {
            wrong++;
            System.out.println(what + " made " + bytes + " bytes, at most due are " + most);
        }
    }

    private static void say(WeekOrders w, String text) {
        for (int i = 0; i < text.length(); i++) {
            w.say(text.charAt(i));
        }
    }

    private static WeekOrders full() {
        WeekOrders w = new WeekOrders();
        String[] orders = {"abcdefg", "bcdefga", "abcde", "gfedcba", "hgfedcba", "cdefab"};
        for (int person = 0; person < orders.length; person++) {
            say(w, orders[person]);
            w.born(person, 10 * person);
        }
        say(w, "a0;a01;b2;b23;c45;h4;");
        w.plan();
        w.seen(0, 1);
        w.image(0);
        w.image(1);
        return w;
    }

    private static long callAll(WeekOrders w, int i) {
        long sum = w.wipe() + w.fault(i & 1) + w.today(0, i) + w.same(1, i) + w.next(0, 1, i)
            + w.meet(3, i, 0) + w.shared(0, 1) + w.never(-1) + w.market(0, 2, 2) + w.can(0, i)
            + w.month(i, -1) + w.month(i, 5) + w.barred() + w.why(5) + w.common(63, i, 1);
        sum += w.wedding(0, 1, 1) + w.best(i % 100, 1) + w.feast(i) + w.feasts(1) + w.poor()
            + w.twins(-1) + w.oneOrder(0, 1) + w.whose(-1) + w.sure(i) + w.chance(0, i, 0)
            + w.shares(0, i, 1) + w.year(i, 999, 2) + w.told(1) + w.told(1000);
        say(w, "abcde");
        sum += w.born(2, 3) + w.exile(5) + w.plan() + w.forget() + w.seen(i, 1) + w.seen(9, 0);
        return sum + w.image(0) + w.restore(1);
    }

    public static void main(String[] args) {
        WeekOrders w = full();
        long sum = callAll(w, 0);
        long before = made();
        for (int i = 0; i < 500; i++) {
            sum += callAll(w, i);
        }
        atMost("500 times all calls", made() - before, SLACK);
        before = made();
        WeekOrders other = new WeekOrders();
        atMost("a new object", made() - before, SLACK + 4000);
        System.out.println("room looked at (" + (sum + other.told(0)) + "), " + wrong + " wrong");
        if (wrong != 0) {
            System.exit(1);
        }
    }
}
