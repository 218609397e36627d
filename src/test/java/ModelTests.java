import java.math.BigInteger;
import java.util.ArrayList;
import java.util.Arrays;
import java.util.List;
import java.util.TreeMap;
import java.util.TreeSet;
import java.util.regex.Pattern;

/**
 * Long runs of calls by chance, each answer against a plain model of the document. The model tells
 * texts by patterns, changes orders on copies, and finds months by sets of works that can be done,
 * so that a fault of the class is hardly made twice.
 */
public final class ModelTests {
    private static final int NONE = -6, UNKNOWN = -1, OUTSIDE = -2, STATE = -3, FULL = -4, NO = -5;
    private static final long LOST = -1000000000000000000L;
    private static final int OBJECTS = 600;
    private static final int CALLS = 512;

    private static final String[] NAMES = {
        "say", "wipe", "fault", "born", "exile", "plan", "today", "same", "next", "meet", "shared",
        "never", "market", "can", "month", "barred", "why", "common", "wedding", "best", "feast",
        "feasts", "poor", "twins", "oneOrder", "seen", "forget", "whose", "sure", "chance",
        "shares", "year", "image", "restore", "told"};

    /** Numbers by chance that are the same in every run. */
    private static final class Dice {
        private long state;

        Dice(long seed) {
            state = seed * 0x9E3779B97F4A7C15L + 1;
        }

        int below(int bound) {
            state = state * 6364136223846793005L + 1442695040888963407L;
            return (int) ((state >>> 33) % bound);
        }

        boolean oneIn(int n) {
            return below(n) == 0;
        }
    }

    /** The plain model. */
    private static final class Model {
        private static final Pattern WHOLE = Pattern.compile("([a-h](?=[0-5])0?1?2?3?4?5?;){0,6}");
        private static final Pattern BEGUN =
            Pattern.compile("([a-h](?=[0-5])0?1?2?3?4?5?;){0,5}([a-h]0?1?2?3?4?5?)?");

        String pad = "";
        String[] orders = new String[6];
        int[] births = new int[6];
        List<int[]> plan = new ArrayList<>();
        List<int[]> sights = new ArrayList<>();
        Model[] images = new Model[2];

        Model copy() {
            Model m = new Model();
            m.orders = orders.clone();
            m.births = births.clone();
            m.plan = new ArrayList<>(plan);
            m.sights = new ArrayList<>(sights);
            return m;
        }

        List<Integer> there() {
            List<Integer> list = new ArrayList<>();
            for (int p = 0; p < 6; p++) {
                if (orders[p] != null) {
                    list.add(p);
                }
            }
            return list;
        }

        boolean isThere(int p) {
            return there().contains(p);
        }

        int bits(List<Integer> list) {
            int bits = 0;
            for (int p : list) {
                bits |= 1 << p;
            }
            return bits;
        }

        List<Integer> members(int set) {
            List<Integer> list = new ArrayList<>();
            for (int p = 0; p < 32; p++) {
                if ((set >>> p & 1) == 1) {
                    list.add(p);
                }
            }
            return list;
        }

        boolean isGoodSet(int set) {
            return set != 0 && there().containsAll(members(set));
        }

        int day(int p, int date) {
            String order = orders[p];
            int n = order.length();
            return order.charAt(((date - births[p]) % n + n) % n) - 'a';
        }

        boolean haveAll(List<Integer> people, int day, int date) {
            for (int p : people) {
                if (orders[p] == null || day(p, date) != day) {
                    return false;
                }
            }
            return true;
        }

        int together(int p, int q, int dates) {
            int count = 0;
            for (int date = 0; date < dates; date++) {
                count += day(p, date) == day(q, date) ? 1 : 0;
            }
            return count;
        }

        static boolean bad(int number, int least, int greatest) {
            return number < least || number > greatest;
        }

        boolean mayStand(String text, int how) {
            if (how == 1) {
                return WHOLE.matcher(text).matches() || BEGUN.matcher(text).matches();
            }
            return text.matches("[a-h]*") && text.chars().distinct().count() == text.length();
        }

        int fault(int how) {
            for (int i = 0; i < pad.length(); i++) {
                if (!mayStand(pad.substring(0, i + 1), how)) {
                    return i;
                }
            }
            boolean whole = how == 1 ? WHOLE.matcher(pad).matches() : pad.length() >= 5;
            return whole ? NONE : pad.length();
        }

        long call(String name, int a, int b, int c) {
            switch (name) {
                case "say":
                    if (bad(a, 33, 126)) {
                        return OUTSIDE;
                    }
                    if (pad.length() >= 60) {
                        return FULL;
                    }
                    pad += (char) a;
                    return pad.length();
                case "wipe": {
                    int n = pad.length();
                    pad = "";
                    return n;
                }
                case "fault":
                    return bad(a, 0, 1) ? OUTSIDE : fault(a);
                case "born": {
                    if (bad(a, 0, 5)) {
                        return UNKNOWN;
                    }
                    if (bad(b, 0, 99)) {
                        return OUTSIDE;
                    }
                    if (fault(0) != NONE) {
                        return NO;
                    }
                    orders[a] = pad;
                    births[a] = b;
                    pad = "";
                    return orders[a].length();
                }
                case "exile":
                    if (!isThere(a)) {
                        return UNKNOWN;
                    }
                    orders[a] = null;
                    return there().size();
                case "plan": {
                    if (fault(1) != NONE) {
                        return NO;
                    }
                    plan.clear();
                    for (String work : pad.isEmpty() ? new String[0] : pad.split(";")) {
                        int people = 0;
                        for (char digit : work.substring(1).toCharArray()) {
                            people += 1 << (digit - '0');
                        }
                        plan.add(new int[] {work.charAt(0) - 'a', people});
                    }
                    pad = "";
                    return plan.size();
                }
                default:
                    return days(name, a, b, c);
            }
        }

        long days(String name, int a, int b, int c) {
            switch (name) {
                case "today":
                    return !isThere(a) ? UNKNOWN : bad(b, 0, 9999) ? OUTSIDE : day(a, b);
                case "same": {
                    if (bad(a, 0, 7)) {
                        return UNKNOWN;
                    }
                    if (bad(b, 0, 9999)) {
                        return OUTSIDE;
                    }
                    return having(a, b);
                }
                case "next":
                    if (!isThere(a) || bad(b, 0, 7)) {
                        return UNKNOWN;
                    }
                    if (bad(c, 0, 9999)) {
                        return OUTSIDE;
                    }
                    for (int date = c; date <= 9999; date++) {
                        if (day(a, date) == b) {
                            return date;
                        }
                    }
                    return NONE;
                case "meet":
                    if (!isGoodSet(a) || bad(b, 0, 9999) || bad(c, 0, 1)) {
                        return OUTSIDE;
                    }
                    for (int date = b; date < b + 840; date++) {
                        for (int day = 0; day < 8; day++) {
                            if ((having(day, date) & a) == a) {
                                return c == 0 ? date : day;
                            }
                        }
                    }
                    return NONE;
                case "shared":
                    return !isThere(a) || !isThere(b) || a == b ? UNKNOWN : together(a, b, 840);
                case "never":
                    return ith(pairs(false), a);
                case "market":
                    return bad(a, 0, 7) ? UNKNOWN
                        : bad(b, 1, 6) || bad(c, 0, 2) ? OUTSIDE : market(a, b, c);
                default:
                    return works(name, a, b, c);
            }
        }

        int having(int day, int date) {
            int bits = 0;
            for (int p : there()) {
                bits |= day(p, date) == day ? 1 << p : 0;
            }
            return bits;
        }

        List<Integer> pairs(boolean twins) {
            List<Integer> list = new ArrayList<>();
            for (int p : there()) {
                for (int q : there()) {
                    if (p < q && (twins ? twins(p, q) : together(p, q, 840) == 0)) {
                        list.add(10 * p + q);
                    }
                }
            }
            return list;
        }

        boolean twins(int p, int q) {
            for (int by : new int[] {-1, 1}) {
                Model m = copy();
                m.births[p] += by;
                if (m.together(p, q, 840) == 840) {
                    return true;
                }
            }
            return false;
        }

        long ith(List<Integer> list, int i) {
            return i == -1 ? list.size() : bad(i, 0, list.size() - 1) ? NONE : list.get(i);
        }

        int market(int day, int m, int what) {
            StringBuilder row = new StringBuilder();
            for (int date = 0; date < 840; date++) {
                row.append(Integer.bitCount(having(day, date)) >= m ? 'm' : '.');
            }
            String text = row.toString();
            if (what == 0) {
                return text.replace(".", "").length();
            }
            if (what == 1) {
                return text.indexOf('m') < 0 ? NONE : text.indexOf('m');
            }
            int longest = 0;
            for (String part : (text + text).split("m")) {
                longest = Math.max(longest, Math.min(840, part.length()));
            }
            return longest;
        }

        long works(String name, int a, int b, int c) {
            switch (name) {
                case "can":
                    if (bad(a, 0, plan.size() - 1)) {
                        return UNKNOWN;
                    }
                    return bad(b, 0, 9999) ? OUTSIDE : can(a, b) ? 1 : 0;
                case "month":
                    if (bad(b, -1, plan.size() - 1)) {
                        return UNKNOWN;
                    }
                    return bad(a, 0, 9970) ? OUTSIDE : month(a, b);
                case "barred": {
                    int bits = 0;
                    for (int work = 0; work < plan.size(); work++) {
                        bits += barred(work) ? 1 << work : 0;
                    }
                    return bits;
                }
                case "why":
                    return why(a);
                case "common":
                    if (!isGoodSet(a) || bad(b, 0, 9990) || bad(c, 0, 1)) {
                        return OUTSIDE;
                    }
                    return common(a, b, c);
                case "wedding":
                    if (!isThere(a) || !isThere(b) || a == b) {
                        return UNKNOWN;
                    }
                    return bad(c, 0, 1) ? OUTSIDE : wedding(a, b, c);
                default:
                    return births(name, a, b, c);
            }
        }

        boolean can(int work, int date) {
            return haveAll(members(plan.get(work)[1]), plan.get(work)[0], date);
        }

        boolean barred(int work) {
            for (int date = 0; date < 840; date++) {
                if (can(work, date)) {
                    return false;
                }
            }
            return true;
        }

        /** The most works of all ways in which each fixed work is done on its date (-1: not at all). */
        int most(int from, int[] fixed) {
            boolean[] reached = new boolean[64];
            reached[0] = true;
            for (int date = from; date < from + 30; date++) {
                int able = 0;
                for (int work = 0; work < plan.size(); work++) {
                    if ((fixed[work] == -2 || fixed[work] == date) && can(work, date)) {
                        able |= 1 << work;
                    }
                }
                boolean[] then = reached.clone();
                for (int some = able; some > 0; some = (some - 1) & able) {
                    if (disjoint(some)) {
                        for (int done = 0; done < 64; done++) {
                            then[done | some] |= reached[done];
                        }
                    }
                }
                reached = then;
            }
            int needed = 0;
            for (int work = 0; work < plan.size(); work++) {
                needed |= fixed[work] >= 0 ? 1 << work : 0;
            }
            int most = -1;
            for (int done = 0; done < 64; done++) {
                if (reached[done] && (done & needed) == needed) {
                    most = Math.max(most, Integer.bitCount(done));
                }
            }
            return most;
        }

        boolean disjoint(int some) {
            int people = 0;
            for (int work : members(some)) {
                if ((people & plan.get(work)[1]) != 0) {
                    return false;
                }
                people |= plan.get(work)[1];
            }
            return true;
        }

        int month(int from, int asked) {
            int[] fixed = new int[6];
            Arrays.fill(fixed, -2);
            int most = most(from, fixed);
            for (int work = 0; work <= asked; work++) {
                int way = -1;
                for (int date = from; date < from + 30 && way == -1; date++) {
                    fixed[work] = date;
                    way = can(work, date) && most(from, fixed) == most ? date : -1;
                }
                fixed[work] = way;
            }
            return asked == -1 ? most : fixed[asked] == -1 ? NONE : fixed[asked];
        }

        int why(int work) {
            if (bad(work, 0, plan.size() - 1)) {
                return UNKNOWN;
            }
            if (!barred(work)) {
                return NO;
            }
            List<Integer> people = members(plan.get(work)[1]);
            if (!there().containsAll(people)) {
                return STATE;
            }
            char day = (char) ('a' + plan.get(work)[0]);
            for (int p : people) {
                if (orders[p].indexOf(day) < 0) {
                    return 11 * p;
                }
            }
            for (int p : people) {
                for (int q : people) {
                    if (p < q && !everBoth(p, q, day - 'a')) {
                        return 10 * p + q;
                    }
                }
            }
            return NONE;
        }

        boolean everBoth(int p, int q, int day) {
            for (int date = 0; date < 840; date++) {
                if (day(p, date) == day && day(q, date) == day) {
                    return true;
                }
            }
            return false;
        }

        /** By who changes: each who does takes the order of one who has the day. */
        int common(int set, int date, int what) {
            for (int changes = 0; changes <= 6; changes++) {
                for (int later = 0; later < 7; later++) {
                    for (int day = 0; day < 8; day++) {
                        int having = having(day, date + later);
                        for (int who = 0; who < 64; who++) {
                            boolean able = (who & set) == who && Integer.bitCount(who) == changes
                                && (who == 0 || having != 0) && ((set & ~who) & ~having) == 0;
                            if (able) {
                                return what == 0 ? changes : 100 * later + day;
                            }
                        }
                    }
                }
            }
            return NONE;
        }

        Model taking(int p, int model) {
            Model m = copy();
            m.orders[p] = orders[model];
            m.births[p] = births[model];
            return m;
        }

        int changed(Model after, int p) {
            int count = 0;
            for (int date = 0; date < 28; date++) {
                count += after.day(p, date) == day(p, date) ? 0 : 1;
            }
            return count;
        }

        int wedding(int p, int q, int what) {
            int least = NONE;
            int how = NONE;
            for (int i : new int[] {0, 1, 2, 10, 11, 12, 13, 14, 15}) {
                if (i >= 10 && (!isThere(i - 10) || i - 10 == p || i - 10 == q)) {
                    continue;
                }
                Model after = i == 0 ? copy() : i == 1 ? taking(p, q) : i == 2 ? taking(q, p)
                    : taking(p, i - 10).taking(q, i - 10);
                int cost = changed(after, p) + changed(after, q);
                if (after.together(p, q, 28) >= 4 && (how == NONE || cost < least)) {
                    least = cost;
                    how = i;
                }
            }
            return what == 0 ? least : how;
        }

        String bornOrder(int which) {
            StringBuilder row = new StringBuilder();
            for (int i = 0; i < 7; i++) {
                int turn = which % 10;
                row.append((char) ('a' + (which < 10 ? turn + i : turn - i + 7) % 7));
            }
            return row.toString();
        }

        static final int[] ALL_BORN = {0, 1, 2, 3, 4, 5, 6, 10, 11, 12, 13, 14, 15, 16};

        long births(String name, int a, int b, int c) {
            switch (name) {
                case "best": {
                    if (bad(a, 0, 99) || bad(b, 0, 1)) {
                        return OUTSIDE;
                    }
                    TreeMap<Integer, Integer> first = new TreeMap<>();
                    for (int which : ALL_BORN) {
                        first.putIfAbsent(sharesOf(which, a), which);
                    }
                    return b == 0 ? first.lastKey() : first.lastEntry().getValue();
                }
                case "feast":
                    return bad(a, 0, 9999) ? OUTSIDE : feast(a);
                case "feasts": {
                    int count = 0;
                    for (int date = 0; date < 840; date++) {
                        count += feast(date) == a ? 1 : 0;
                    }
                    return bad(a, 0, 7) ? UNKNOWN : count;
                }
                case "poor": {
                    TreeSet<Integer> poor = new TreeSet<>(there());
                    for (int date = 0; date < 840; date++) {
                        poor.removeAll(members(having(feast(date), date)));
                    }
                    return bits(new ArrayList<>(poor));
                }
                case "twins":
                    return ith(pairs(true), a);
                case "oneOrder":
                    return !isThere(a) ? UNKNOWN : bad(b, 0, 1) ? OUTSIDE : oneOrder(a, b);
                default:
                    return wells(name, a, b, c);
            }
        }

        int sharesOf(int which, int birth) {
            int fewest = 14;
            for (int p : there()) {
                int count = 0;
                for (int i = 0; i < 14; i++) {
                    count += day(p, birth + i) == bornOrder(which).charAt(i % 7) - 'a' ? 1 : 0;
                }
                fewest = Math.min(fewest, count);
            }
            return fewest;
        }

        int feast(int date) {
            int feast = NONE;
            for (int day = 7; day >= 0; day--) {
                int people = Integer.bitCount(having(day, date));
                int most = feast == NONE ? 1 : Integer.bitCount(having(feast, date));
                feast = people >= most ? day : feast;
            }
            return feast;
        }

        int oneOrder(int model, int what) {
            Model after = copy();
            for (int p : there()) {
                after = after.taking(p, model);
            }
            int won = 0;
            for (int date = 0; date < 28; date++) {
                TreeSet<Integer> days = new TreeSet<>();
                for (int p : there()) {
                    days.add(day(p, date));
                }
                won += days.size() > 1 ? 1 : 0;
            }
            int lost = 0;
            for (int p : there()) {
                lost += changed(after, p);
            }
            return what == 0 ? won : lost;
        }

        List<Integer> fitting() {
            List<Integer> list = new ArrayList<>();
            for (int p : there()) {
                for (int day = 0; day < 8; day++) {
                    boolean fits = true;
                    for (int[] sight : sights) {
                        fits &= (day(p, sight[0]) == day ? 1 : 0) == sight[1];
                    }
                    if (fits) {
                        list.add(10 * p + day);
                    }
                }
            }
            return list;
        }

        int sure(int date) {
            TreeSet<Boolean> told = new TreeSet<>();
            for (int one : fitting()) {
                told.add(day(one / 10, date) == one % 10);
            }
            return told.isEmpty() ? NONE : told.size() == 2 ? 2 : told.first() ? 1 : 0;
        }

        long chance(int day, int date, int part) {
            int hits = 0;
            for (int which : ALL_BORN) {
                for (int birth = 0; birth < 7; birth++) {
                    Model m = new Model();
                    m.orders[0] = bornOrder(which);
                    m.births[0] = birth;
                    hits += m.day(0, date) == day ? 1 : 0;
                }
            }
            int factor = BigInteger.valueOf(hits).gcd(BigInteger.valueOf(98)).intValue();
            return (part == 0 ? hits : 98) / factor;
        }

        int year(int seed, int m, int what) {
            long x = seed;
            List<Integer> dates = new ArrayList<>();
            TreeSet<Integer> days = new TreeSet<>();
            for (int date = 0; date < m; date++) {
                x = (75 * x + 74) % 65537;
                int p = (int) (x % 6);
                int q = (int) (x / 6 % 6);
                if (p != q && isThere(p) && isThere(q) && day(p, date) == day(q, date)) {
                    dates.add(date);
                    days.add(day(p, date));
                }
            }
            int between = 0;
            for (int i = 1; i < dates.size(); i++) {
                between = Math.max(between, dates.get(i) - dates.get(i - 1));
            }
            return what == 0 ? dates.size() : what == 1 ? days.size() : between;
        }

        long wells(String name, int a, int b, int c) {
            switch (name) {
                case "seen":
                    if (bad(a, 0, 9999) || bad(b, 0, 1)) {
                        return OUTSIDE;
                    }
                    if (sights.size() >= 6) {
                        return FULL;
                    }
                    sights.add(new int[] {a, b});
                    return sights.size();
                case "forget": {
                    int n = sights.size();
                    sights.clear();
                    return n;
                }
                case "whose":
                    return ith(fitting(), a);
                case "sure":
                    return bad(a, 0, 9999) ? OUTSIDE : sure(a);
                case "chance":
                    return bad(a, 0, 7) ? LOST + UNKNOWN
                        : bad(b, 0, 9999) || bad(c, 0, 1) ? LOST + OUTSIDE : chance(a, b, c);
                case "shares":
                    return !isThere(a) ? LOST + UNKNOWN
                        : bad(b, 0, 9999) || bad(c, 0, 1) ? LOST + OUTSIDE : chance(day(a, b), b, c);
                case "year":
                    return bad(a, 0, 9999) || bad(b, 1, 999) || bad(c, 0, 2) ? OUTSIDE : year(a, b, c);
                case "image":
                    if (bad(a, 0, 1)) {
                        return OUTSIDE;
                    }
                    images[a] = copy();
                    return 1;
                case "restore":
                    return restore(a);
                default:
                    return told(a);
            }
        }

        int restore(int n) {
            if (bad(n, 0, 1)) {
                return OUTSIDE;
            }
            if (images[n] == null) {
                return STATE;
            }
            Model kept = images[n].copy();
            orders = kept.orders;
            births = kept.births;
            plan = kept.plan;
            sights = kept.sights;
            return 1;
        }

        int told(int what) {
            TreeMap<Integer, Integer> all = new TreeMap<>();
            all.put(0, pad.length());
            all.put(1, bits(there()));
            all.put(2, plan.size());
            all.put(3, sights.size());
            for (int p : there()) {
                all.put(10 + p, births[p]);
                all.put(20 + p, orders[p].length());
                for (int i = 0; i < orders[p].length(); i++) {
                    all.put(100 * (1 + p) + i, orders[p].charAt(i) - 'a');
                }
            }
            for (int work = 0; work < plan.size(); work++) {
                all.put(1000 * (1 + work), plan.get(work)[0]);
                all.put(1000 * (1 + work) + 1, plan.get(work)[1]);
            }
            return all.getOrDefault(what, OUTSIDE);
        }
    }

    private static long real(WeekOrders w, String name, int a, int b, int c) {
        switch (name) {
            case "say": return w.say(a);
            case "wipe": return w.wipe();
            case "fault": return w.fault(a);
            case "born": return w.born(a, b);
            case "exile": return w.exile(a);
            case "plan": return w.plan();
            case "today": return w.today(a, b);
            case "same": return w.same(a, b);
            case "next": return w.next(a, b, c);
            case "meet": return w.meet(a, b, c);
            case "shared": return w.shared(a, b);
            case "never": return w.never(a);
            case "market": return w.market(a, b, c);
            case "can": return w.can(a, b);
            case "month": return w.month(a, b);
            case "barred": return w.barred();
            case "why": return w.why(a);
            case "common": return w.common(a, b, c);
            case "wedding": return w.wedding(a, b, c);
            case "best": return w.best(a, b);
            case "feast": return w.feast(a);
            case "feasts": return w.feasts(a);
            case "poor": return w.poor();
            case "twins": return w.twins(a);
            case "oneOrder": return w.oneOrder(a, b);
            case "seen": return w.seen(a, b);
            case "forget": return w.forget();
            case "whose": return w.whose(a);
            case "sure": return w.sure(a);
            case "chance": return w.chance(a, b, c);
            case "shares": return w.shares(a, b, c);
            case "year": return w.year(a, b, c);
            case "image": return w.image(a);
            case "restore": return w.restore(a);
            case "told": return w.told(a);
            default: throw new IllegalArgumentException(name);
        }
    }

    /** One object with its model, and the calls that both have had. */
    private static final class Run {
        final WeekOrders object = new WeekOrders();
        final Model model = new Model();
        final Dice dice;
        final int number;
        final StringBuilder told = new StringBuilder();
        int calls = 0;
        int wrong = 0;

        Run(int number) {
            this.number = number;
            dice = new Dice(number);
        }

        void call(String name, int a, int b, int c) {
            if (calls == CALLS || wrong > 0) {
                return;
            }
            calls++;
            told.append(name).append('(').append(a).append(", ").append(b).append(", ").append(c).append(") ");
            long due = model.call(name, a, b, c);
            String got;
            try {
                got = Long.toString(real(object, name, a, b, c));
            } catch (RuntimeException e) {
                got = e.toString();
            }
            if (!got.equals(Long.toString(due))) {
                wrong++;
                System.out.println("run " + number + ": the last call answered " + got + ", due is " + due + ": " + told);
            }
        }

        void say(String text) {
            call("wipe", 0, 0, 0);
            for (char sign : text.toCharArray()) {
                call("say", sign, 0, 0);
            }
        }

        String order() {
            StringBuilder row = new StringBuilder("abcdefgh");
            if (dice.oneIn(3)) {
                for (int i = 7; i > 0; i--) {
                    int j = dice.below(i + 1);
                    char sign = row.charAt(i);
                    row.setCharAt(i, row.charAt(j));
                    row.setCharAt(j, sign);
                }
            }
            row.setLength(5 + dice.below(4));
            if (dice.oneIn(3)) {
                row.reverse();
            }
            int turn = dice.oneIn(2) ? dice.below(row.length()) : 0;
            return row.substring(turn) + row.substring(0, turn);
        }

        String works() {
            StringBuilder text = new StringBuilder();
            int works = dice.below(7);
            int days = 1 + dice.below(8);
            int rare = 2 + dice.below(5);
            for (int i = 0; i < works; i++) {
                text.append((char) ('a' + dice.below(days)));
                int one = dice.below(6);
                for (int p = 0; p < 6; p++) {
                    if (p == one || dice.oneIn(rare)) {
                        text.append(p);
                    }
                }
                text.append(';');
            }
            return text.toString();
        }

        String spoilt(String text) {
            StringBuilder row = new StringBuilder(text);
            int place = dice.below(row.length() + 1);
            row.insert(place, (char) (dice.oneIn(3) ? 33 + dice.below(94) : "abh059;"
                .charAt(dice.below(7))));
            return row.toString();
        }

        void change() {
            switch (dice.below(12)) {
                case 0:
                    call("exile", person(), 0, 0);
                    break;
                case 1:
                    call("image", few(2), 0, 0);
                    break;
                case 2:
                    call("restore", few(2), 0, 0);
                    break;
                case 3:
                    call("forget", 0, 0, 0);
                    break;
                case 4:
                    say(spoilt(dice.oneIn(2) ? order() : works()));
                    call("fault", few(2), 0, 0);
                    call("fault", few(2), 0, 0);
                    call(dice.oneIn(2) ? "plan" : "born", person(), few(100), 0);
                    break;
                case 5:
                case 6:
                    sights();
                    break;
                case 7:
                case 8:
                    say(works());
                    call("plan", 0, 0, 0);
                    break;
                default:
                    people(1);
            }
        }

        /** Sights that fit somebody, so that something is left to tell. */
        void sights() {
            call("forget", 0, 0, 0);
            int p = dice.below(6);
            int day = dice.below(8);
            int count = dice.below(7);
            for (int i = 0; i < count; i++) {
                int date = dice.below(60);
                boolean shut = model.isThere(p) && model.day(p, date) == day;
                call("seen", date, shut ? 1 : 0, 0);
            }
        }

        void people(int count) {
            int births = 1 + dice.below(100);
            for (int i = 0; i < count; i++) {
                String order = order();
                if (dice.oneIn(3) && model.isThere(i)) {
                    order = model.orders[i];
                }
                say(order);
                call("born", count > 1 ? i : dice.below(6), dice.below(births), 0);
            }
        }

        int wild() {
            int[] some = {-1, -2, -6, 6, 7, 8, 10, 60, 64, 99, 100, 840, 999, 1000, 9970, 9971,
                9990, 9991, 9999, 10000, Integer.MIN_VALUE, Integer.MAX_VALUE};
            return some[dice.below(some.length)];
        }

        int few(int n) {
            return dice.oneIn(25) ? wild() : dice.below(n);
        }

        int person() {
            return few(6);
        }

        int date() {
            return dice.oneIn(25) ? wild() : dice.oneIn(4) ? dice.below(10000) : dice.below(100);
        }

        int set() {
            return dice.oneIn(25) ? wild() : dice.oneIn(4) ? dice.below(64)
                : (1 << dice.below(6) | 1 << dice.below(6)) & model.bits(model.there());
        }

        int index(int n) {
            return dice.oneIn(3) ? -1 : few(n);
        }

        int toldNumber() {
            switch (dice.below(5)) {
                case 0: return few(5);
                case 1: return 10 + few(16);
                case 2: return 100 * (1 + dice.below(6)) + dice.below(9);
                case 3: return 1000 * (1 + dice.below(6)) + dice.below(3);
                default: return wild();
            }
        }

        void ask() {
            switch (dice.below(29)) {
                case 0: call("today", person(), date(), 0); break;
                case 1: call("same", few(8), date(), 0); break;
                case 2: call("next", person(), few(8), date()); break;
                case 3: call("meet", set(), date(), few(2)); break;
                case 4: call("shared", person(), person(), 0); break;
                case 5: call("never", index(6), 0, 0); break;
                case 6: call("market", few(8), few(5), few(3)); break;
                case 7: call("can", few(6), date(), 0); break;
                case 8: askMonth(); break;
                case 9: call("barred", 0, 0, 0); break;
                case 10: call("why", few(6), 0, 0); break;
                case 11: call("why", few(6), 0, 0); break;
                case 12: call("common", set(), date(), few(2)); break;
                case 13: call("wedding", person(), person(), few(2)); break;
                case 14: call("best", few(100), few(2), 0); break;
                case 15: call("feast", date(), 0, 0); break;
                case 16: call("feasts", few(8), 0, 0); break;
                case 17: call("poor", 0, 0, 0); break;
                case 18: call("twins", index(4), 0, 0); break;
                case 19: call("oneOrder", person(), few(2), 0); break;
                case 20: call("seen", date(), few(2), 0); break;
                case 21: call("whose", index(20), 0, 0); break;
                case 22: call("sure", date(), 0, 0); break;
                case 23: call("chance", few(8), date(), few(2)); break;
                case 24: call("shares", person(), date(), few(2)); break;
                case 25: call("year", few(10000), 1 + few(999), few(3)); break;
                case 26: call("say", dice.oneIn(9) ? wild() : 33 + few(94), 0, 0); break;
                case 27: call("fault", few(2), 0, 0); break;
                default: call("told", toldNumber(), 0, 0);
            }
        }

        void askMonth() {
            int date = date();
            int works = model.plan.size();
            for (int work = -1; work < works; work++) {
                call("month", date, work, 0);
            }
            call("month", date(), index(6), 0);
        }

        int play() {
            people(dice.below(7));
            while (calls < CALLS && wrong == 0) {
                if (dice.oneIn(8)) {
                    change();
                } else if (dice.oneIn(200)) {
                    call(NAMES[dice.below(NAMES.length)], wild(), wild(), wild());
                } else {
                    ask();
                }
            }
            return wrong;
        }
    }

    public static void main(String[] args) {
        int wrong = 0;
        for (int i = 0; i < OBJECTS; i++) {
            wrong += new Run(i).play();
        }
        System.out.println(OBJECTS + " runs of " + CALLS + " calls, " + wrong + " wrong");
        if (wrong != 0) {
            System.exit(1);
        }
    }
}
