/**
 * A week in each one's own order: people with rows of days of their own, and what follows from
 * them. Every call answers with a number; a call that is refused changes nothing.
 */
public final class WeekOrders {
    public static final int NONE = -6, UNKNOWN = -1, OUTSIDE = -2, STATE = -3, FULL = -4, NO = -5;
    public static final long LOST = -1000000000000000000L;

    private static final int DAYS = 8;
    private static final int LEAST_DAYS = 5;
    private static final int PEOPLE = 6;
    private static final int WORKS = 6;
    private static final int SIGHTS = 6;
    private static final int SIGNS = 60;
    private static final int IMAGES = 2;
    private static final int LAST_DATE = 9999;
    private static final int LAST_BIRTH = 99;
    private static final int LAST_SEED = 9999;
    private static final int LONGEST_YEAR = 999;
    private static final int MONTH = 30;
    private static final int LUNAR = 28;
    private static final int WEEK = 7;
    /** Orders of 5, 6, 7 and 8 days all begin anew together after so many dates. */
    private static final int ROUND = 840;
    private static final int TURNS = 7;
    private static final int WAYS = 2;
    private static final int SHARED_TO_SUIT = 4;
    private static final int BOTH_TAKE = 10;

    private final Pad pad = new Pad();
    private final Land land = new Land();
    private final Land[] images = new Land[IMAGES];
    private final Month month = new Month();

    public WeekOrders() {
    }

    // ---- 1 people, texts

    public int say(int sign) {
        if (sign < 33 || sign > 126) {
            return OUTSIDE;
        }
        return pad.add(sign) ? pad.count : FULL;
    }

    public int wipe() {
        int count = pad.count;
        pad.count = 0;
        return count;
    }

    public int fault(int how) {
        if (!isOneOf(how, 2)) {
            return OUTSIDE;
        }
        return how == 0 ? pad.orderFault() : pad.planFault();
    }

    public int born(int person, int birth) {
        if (!isOneOf(person, PEOPLE)) {
            return UNKNOWN;
        }
        if (!isBirth(birth)) {
            return OUTSIDE;
        }
        if (pad.orderFault() != NONE) {
            return NO;
        }
        land.folk.settle(person, birth, pad);
        return wipe();
    }

    public int exile(int person) {
        if (!isThere(person)) {
            return UNKNOWN;
        }
        land.folk.there &= ~(1 << person);
        return Integer.bitCount(land.folk.there);
    }

    public int plan() {
        if (pad.planFault() != NONE) {
            return NO;
        }
        land.plan.read(pad);
        wipe();
        return land.plan.count;
    }

    // ---- 2 days

    public int today(int person, int date) {
        if (!isThere(person)) {
            return UNKNOWN;
        }
        return isDate(date) ? land.folk.dayOn(person, date) : OUTSIDE;
    }

    public int same(int day, int date) {
        if (!isOneOf(day, DAYS)) {
            return UNKNOWN;
        }
        return isDate(date) ? land.folk.having(day, date) : OUTSIDE;
    }

    public int next(int person, int day, int date) {
        if (!isThere(person) || !isOneOf(day, DAYS)) {
            return UNKNOWN;
        }
        if (!isDate(date)) {
            return OUTSIDE;
        }
        // Whoever has the day at all has it within as many dates as there are days.
        for (int d = date; d <= LAST_DATE && d < date + DAYS; d++) {
            if (land.folk.dayOn(person, d) == day) {
                return d;
            }
        }
        return NONE;
    }

    public int meet(int set, int date, int what) {
        if (!isSetOfThere(set) || !isDate(date) || !isOneOf(what, 2)) {
            return OUTSIDE;
        }
        for (int d = date; d < date + ROUND; d++) {
            int day = land.folk.commonDay(set, d);
            if (day != NONE) {
                return what == 0 ? d : day;
            }
        }
        return NONE;
    }

    public int shared(int person, int other) {
        if (!areTwoThere(person, other)) {
            return UNKNOWN;
        }
        return land.folk.sharedDates(person, other, ROUND);
    }

    public int never(int i) {
        return pairs(false, i);
    }

    public int market(int day, int m, int what) {
        if (!isOneOf(day, DAYS)) {
            return UNKNOWN;
        }
        if (m < 1 || m > PEOPLE || !isOneOf(what, 3)) {
            return OUTSIDE;
        }
        if (what == 0) {
            return countMarkets(day, m);
        }
        return what == 1 ? firstMarket(day, m) : longestWithoutMarket(day, m);
    }

    private boolean isMarket(int day, int m, int date) {
        return Integer.bitCount(land.folk.having(day, date)) >= m;
    }

    private int countMarkets(int day, int m) {
        int count = 0;
        for (int date = 0; date < ROUND; date++) {
            if (isMarket(day, m, date)) {
                count++;
            }
        }
        return count;
    }

    private int firstMarket(int day, int m) {
        for (int date = 0; date < ROUND; date++) {
            if (isMarket(day, m, date)) {
                return date;
            }
        }
        return NONE;
    }

    private int longestWithoutMarket(int day, int m) {
        int first = firstMarket(day, m);
        if (first == NONE) {
            return ROUND;
        }
        int longest = 0;
        int row = 0;
        // From a market round to the same market again: so no row is cut in two.
        for (int date = first; date <= first + ROUND; date++) {
            row = isMarket(day, m, date) ? 0 : row + 1;
            longest = Math.max(longest, row);
        }
        return longest;
    }

    // ---- 3 works, weddings

    public int can(int work, int date) {
        if (!isOneOf(work, land.plan.count)) {
            return UNKNOWN;
        }
        if (!isDate(date)) {
            return OUTSIDE;
        }
        return land.isDoable(work, date) ? 1 : 0;
    }

    public int month(int date, int work) {
        if (work != -1 && !isOneOf(work, land.plan.count)) {
            return UNKNOWN;
        }
        if (date < 0 || date > LAST_DATE + 1 - MONTH) {
            return OUTSIDE;
        }
        month.settle(land, date);
        return work == -1 ? month.most : month.dateOf(work);
    }

    public int barred() {
        int bits = 0;
        for (int work = 0; work < land.plan.count; work++) {
            if (land.isBarred(work)) {
                bits |= 1 << work;
            }
        }
        return bits;
    }

    public int why(int work) {
        if (!isOneOf(work, land.plan.count)) {
            return UNKNOWN;
        }
        if (!land.isBarred(work)) {
            return NO;
        }
        int people = land.plan.peopleOf(work);
        if ((people & ~land.folk.there) != 0) {
            return STATE;
        }
        return land.folk.whyNever(people, land.plan.dayOf(work));
    }

    public int common(int set, int date, int what) {
        if (!isSetOfThere(set) || date < 0 || date > LAST_DATE - 9 || !isOneOf(what, 2)) {
            return OUTSIDE;
        }
        int fewest = PEOPLE + 1;
        int when = NONE;
        for (int later = 0; later < WEEK; later++) {
            for (int day = 0; day < DAYS; day++) {
                int having = land.folk.having(day, date + later);
                int changes = Integer.bitCount(set & ~having);
                // A day that nobody has on the date can be taken from nobody.
                if (having != 0 && changes < fewest) {
                    fewest = changes;
                    when = 100 * later + day;
                }
            }
        }
        return what == 0 ? fewest : when;
    }

    public int wedding(int person, int other, int what) {
        if (!areTwoThere(person, other)) {
            return UNKNOWN;
        }
        if (!isOneOf(what, 2)) {
            return OUTSIDE;
        }
        int least = NONE;
        int best = NONE;
        for (int how = 0; how < BOTH_TAKE + PEOPLE; how++) {
            int cost = weddingCost(person, other, how);
            if (cost != NONE && (least == NONE || cost < least)) {
                least = cost;
                best = how;
            }
        }
        return what == 0 ? least : best;
    }

    /** NONE: there is no such way, or it does not suit. Whoever has one order shares all dates. */
    private int weddingCost(int person, int other, int how) {
        Folk folk = land.folk;
        if (how == 0) {
            return folk.sharedDates(person, other, LUNAR) >= SHARED_TO_SUIT ? 0 : NONE;
        }
        if (how == 1) {
            return folk.cost(person, other);
        }
        if (how == 2) {
            return folk.cost(other, person);
        }
        int third = how - BOTH_TAKE;
        if (!isThere(third) || third == person || third == other) {
            return NONE;
        }
        return folk.cost(person, third) + folk.cost(other, third);
    }

    // ---- 4 births, feasts

    public int best(int birth, int what) {
        if (!isBirth(birth) || !isOneOf(what, 2)) {
            return OUTSIDE;
        }
        int most = -1;
        int which = NONE;
        for (int way = 0; way < WAYS; way++) {
            for (int turn = 0; turn < TURNS; turn++) {
                int shares = land.folk.fewestShared(turn, way, birth);
                if (shares > most) {
                    most = shares;
                    which = 10 * way + turn;
                }
            }
        }
        return what == 0 ? most : which;
    }

    public int feast(int date) {
        return isDate(date) ? land.folk.feastOn(date) : OUTSIDE;
    }

    public int feasts(int day) {
        if (!isOneOf(day, DAYS)) {
            return UNKNOWN;
        }
        int count = 0;
        for (int date = 0; date < ROUND; date++) {
            if (land.folk.feastOn(date) == day) {
                count++;
            }
        }
        return count;
    }

    public int poor() {
        int never = land.folk.there;
        for (int date = 0; date < ROUND && never != 0; date++) {
            never &= ~land.folk.having(land.folk.feastOn(date), date);
        }
        return never;
    }

    public int twins(int i) {
        return pairs(true, i);
    }

    public int oneOrder(int person, int what) {
        if (!isThere(person)) {
            return UNKNOWN;
        }
        if (!isOneOf(what, 2)) {
            return OUTSIDE;
        }
        return what == 0 ? land.folk.datesApart() : land.folk.costOfAll(person);
    }

    // ---- 5 wells, chances, years

    public int seen(int date, int shut) {
        if (!isDate(date) || !isOneOf(shut, 2)) {
            return OUTSIDE;
        }
        return land.sights.add(date, shut) ? land.sights.count : FULL;
    }

    public int forget() {
        int count = land.sights.count;
        land.sights.count = 0;
        return count;
    }

    public int whose(int i) {
        int found = 0;
        for (int person = 0; person < PEOPLE; person++) {
            for (int day = 0; day < DAYS; day++) {
                if (land.fitsSights(person, day)) {
                    if (found == i) {
                        return 10 * person + day;
                    }
                    found++;
                }
            }
        }
        return i == -1 ? found : NONE;
    }

    public int sure(int date) {
        if (!isDate(date)) {
            return OUTSIDE;
        }
        int all = 0;
        int shut = 0;
        for (int person = 0; person < PEOPLE; person++) {
            for (int day = 0; day < DAYS; day++) {
                if (land.fitsSights(person, day)) {
                    all++;
                    shut += land.folk.dayOn(person, date) == day ? 1 : 0;
                }
            }
        }
        if (all == 0) {
            return NONE;
        }
        if (shut == 0) {
            return 0;
        }
        return shut == all ? 1 : 2;
    }

    public long chance(int day, int date, int part) {
        if (!isOneOf(day, DAYS)) {
            return LOST + UNKNOWN;
        }
        if (!isDate(date) || !isOneOf(part, 2)) {
            return LOST + OUTSIDE;
        }
        return chanceOfDay(day, date, part);
    }

    public long shares(int person, int date, int part) {
        if (!isThere(person)) {
            return LOST + UNKNOWN;
        }
        if (!isDate(date) || !isOneOf(part, 2)) {
            return LOST + OUTSIDE;
        }
        return chanceOfDay(land.folk.dayOn(person, date), date, part);
    }

    public int year(int seed, int m, int what) {
        if (!isOneOf(seed, LAST_SEED + 1) || m < 1 || m > LONGEST_YEAR || !isOneOf(what, 3)) {
            return OUTSIDE;
        }
        int x = seed;
        int meetings = 0;
        int days = 0;
        int last = 0;
        int longest = 0;
        for (int date = 0; date < m; date++) {
            x = (75 * x + 74) % 65537;
            int person = x % 6;
            int other = x / 6 % 6;
            if (areTwoThere(person, other) && land.folk.share(person, other, date)) {
                longest = meetings == 0 ? 0 : Math.max(longest, date - last);
                last = date;
                meetings++;
                days |= 1 << land.folk.dayOn(person, date);
            }
        }
        if (what == 0) {
            return meetings;
        }
        return what == 1 ? Integer.bitCount(days) : longest;
    }

    public int image(int n) {
        if (!isOneOf(n, IMAGES)) {
            return OUTSIDE;
        }
        Land kept = images[n];
        if (kept == null) {
            kept = new Land();
            images[n] = kept;
        }
        kept.become(land);
        return 1;
    }

    public int restore(int n) {
        if (!isOneOf(n, IMAGES)) {
            return OUTSIDE;
        }
        Land kept = images[n];
        if (kept == null) {
            return STATE;
        }
        land.become(kept);
        return 1;
    }

    public int told(int what) {
        switch (what) {
            case 0:
                return pad.count;
            case 1:
                return land.folk.there;
            case 2:
                return land.plan.count;
            case 3:
                return land.sights.count;
            default:
                return what < 1000 ? toldOfPerson(what) : toldOfWork(what);
        }
    }

    private int toldOfPerson(int what) {
        Folk folk = land.folk;
        if (isThere(what - 10)) {
            return folk.birthOf(what - 10);
        }
        if (isThere(what - 20)) {
            return folk.sizeOf(what - 20);
        }
        int person = what / 100 - 1;
        int place = what % 100;
        if (!isThere(person) || !isOneOf(place, folk.sizeOf(person))) {
            return OUTSIDE;
        }
        return folk.dayAt(person, place);
    }

    private int toldOfWork(int what) {
        int work = what / 1000 - 1;
        int part = what % 1000;
        if (!isOneOf(work, land.plan.count) || !isOneOf(part, 2)) {
            return OUTSIDE;
        }
        return part == 0 ? land.plan.dayOf(work) : land.plan.peopleOf(work);
    }

    /** Twins, or those who never share a day: how many (i is -1), or the i-th. */
    private int pairs(boolean ofTwins, int i) {
        int found = 0;
        for (int person = 0; person < PEOPLE; person++) {
            for (int other = person + 1; other < PEOPLE; other++) {
                if (isPair(ofTwins, person, other)) {
                    if (found == i) {
                        return 10 * person + other;
                    }
                    found++;
                }
            }
        }
        return i == -1 ? found : NONE;
    }

    private boolean isPair(boolean ofTwins, int person, int other) {
        if (!areTwoThere(person, other)) {
            return false;
        }
        return ofTwins ? land.folk.areTwins(person, other) : !land.folk.everShare(person, other);
    }

    // ---- what a call may name

    private static boolean isOneOf(int number, int count) {
        return number >= 0 && number < count;
    }

    private static boolean isDate(int date) {
        return date >= 0 && date <= LAST_DATE;
    }

    private static boolean isBirth(int birth) {
        return birth >= 0 && birth <= LAST_BIRTH;
    }

    private boolean isThere(int person) {
        return land.folk.isThere(person);
    }

    private boolean areTwoThere(int person, int other) {
        return person != other && isThere(person) && isThere(other);
    }

    private boolean isSetOfThere(int set) {
        return set != 0 && (set & ~land.folk.there) == 0;
    }

    // ---- the newly born

    /** The day of one born on a date with one of the fourteen orders: turned, forth or back. */
    private static int bornDay(int turn, int way, int birth, int date) {
        int place = date - birth;
        return Math.floorMod(way == 0 ? turn + place : turn - place, TURNS);
    }

    private static long chanceOfDay(int day, int date, int part) {
        int hits = 0;
        int all = 0;
        for (int way = 0; way < WAYS; way++) {
            for (int turn = 0; turn < TURNS; turn++) {
                for (int birth = 0; birth < WEEK; birth++) {
                    all++;
                    hits += bornDay(turn, way, birth, date) == day ? 1 : 0;
                }
            }
        }
        return (part == 0 ? hits : all) / greatestFactor(hits, all);
    }

    /** The greatest number, 1 at least, that divides both. */
    private static int greatestFactor(int a, int b) {
        for (int factor = b; factor > 1; factor--) {
            if (a % factor == 0 && b % factor == 0) {
                return factor;
            }
        }
        return 1;
    }

    /** The signs that are told one by one. */
    private static final class Pad {
        final int[] signs = new int[SIGNS];
        int count;

        boolean add(int sign) {
            if (!isOneOf(count, SIGNS)) {
                return false;
            }
            signs[count] = sign;
            count++;
            return true;
        }

        int signAt(int place) {
            return isOneOf(place, SIGNS) ? signs[place] : 0;
        }

        int orderFault() {
            int letters = 0;
            for (int place = 0; place < count; place++) {
                int day = signAt(place) - 'a';
                if (!isOneOf(day, DAYS) || (letters >> day & 1) == 1) {
                    return place;
                }
                letters |= 1 << day;
            }
            return count < LEAST_DAYS ? count : NONE;
        }

        int planFault() {
            int works = 0;
            boolean open = false;
            int last = -1;
            for (int place = 0; place < count; place++) {
                int sign = signAt(place);
                if (!open) {
                    if (!isOneOf(sign - 'a', DAYS) || works == WORKS) {
                        return place;
                    }
                    works++;
                    open = true;
                    last = -1;
                } else if (sign == ';' && last >= 0) {
                    open = false;
                } else {
                    int person = sign - '0';
                    if (person <= last || person >= PEOPLE) {
                        return place;
                    }
                    last = person;
                }
            }
            return open ? count : NONE;
        }
    }

    /** All that an image keeps. */
    private static final class Land {
        final Folk folk = new Folk();
        final Plan plan = new Plan();
        final Sights sights = new Sights();

        void become(Land other) {
            if (other == null) {
                return;
            }
            folk.become(other.folk);
            plan.become(other.plan);
            sights.become(other.sights);
        }

        boolean isDoable(int work, int date) {
            return folk.allHave(plan.peopleOf(work), plan.dayOf(work), date);
        }

        boolean isBarred(int work) {
            return !folk.everAllHave(plan.peopleOf(work), plan.dayOf(work));
        }

        boolean fitsSights(int person, int day) {
            if (!folk.isThere(person)) {
                return false;
            }
            for (int i = 0; i < sights.count; i++) {
                if ((folk.dayOn(person, sights.dateOf(i)) == day) != sights.wasShut(i)) {
                    return false;
                }
            }
            return true;
        }
    }

    /** Who is there, and each one's order and birth. */
    private static final class Folk {
        int there;
        final int[] births = new int[PEOPLE];
        final int[] sizes = new int[PEOPLE];
        final int[] orders = new int[PEOPLE * DAYS];
        final int[] votes = new int[DAYS];

        void become(Folk other) {
            if (other == null) {
                return;
            }
            there = other.there;
            System.arraycopy(other.births, 0, births, 0, PEOPLE);
            System.arraycopy(other.sizes, 0, sizes, 0, PEOPLE);
            System.arraycopy(other.orders, 0, orders, 0, PEOPLE * DAYS);
        }

        void settle(int person, int birth, Pad pad) {
            if (!isOneOf(person, PEOPLE) || pad == null || pad.count > DAYS) {
                return;
            }
            there |= 1 << person;
            births[person] = birth;
            sizes[person] = pad.count;
            for (int place = 0; place < pad.count; place++) {
                orders[person * DAYS + place] = pad.signAt(place) - 'a';
            }
        }

        boolean isThere(int person) {
            return isOneOf(person, PEOPLE) && (there >> person & 1) == 1;
        }

        int birthOf(int person) {
            return isOneOf(person, PEOPLE) ? births[person] : 0;
        }

        int sizeOf(int person) {
            return isOneOf(person, PEOPLE) ? sizes[person] : 0;
        }

        int dayAt(int person, int place) {
            if (!isOneOf(person, PEOPLE) || !isOneOf(place, DAYS)) {
                return NONE;
            }
            return orders[person * DAYS + place];
        }

        /** NONE, if he is not there. */
        int dayOn(int person, int date) {
            if (person < 0 || person >= PEOPLE || (there >> person & 1) == 0) {
                return NONE;
            }
            int size = sizes[person];
            if (size < 1 || size > DAYS) {
                return NONE;
            }
            return orders[person * DAYS + Math.floorMod(date - births[person], size)];
        }

        /** Who has a day on a date, as bits. */
        int having(int day, int date) {
            int bits = 0;
            for (int person = 0; person < PEOPLE; person++) {
                if (dayOn(person, date) == day) {
                    bits |= 1 << person;
                }
            }
            return bits;
        }

        /** The day that all of a set have on a date; NONE, if they differ. */
        int commonDay(int set, int date) {
            int day = NONE;
            for (int person = 0; person < PEOPLE; person++) {
                if ((set >> person & 1) == 1) {
                    int own = dayOn(person, date);
                    if (day != NONE && own != day) {
                        return NONE;
                    }
                    day = own;
                }
            }
            return day;
        }

        boolean share(int person, int other, int date) {
            return dayOn(person, date) == dayOn(other, date);
        }

        int sharedDates(int person, int other, int dates) {
            int count = 0;
            for (int date = 0; date < dates; date++) {
                if (share(person, other, date)) {
                    count++;
                }
            }
            return count;
        }

        boolean everShare(int person, int other) {
            for (int date = 0; date < ROUND; date++) {
                if (share(person, other, date)) {
                    return true;
                }
            }
            return false;
        }

        boolean allHave(int set, int day, int date) {
            for (int person = 0; person < PEOPLE; person++) {
                if ((set >> person & 1) == 1 && dayOn(person, date) != day) {
                    return false;
                }
            }
            return true;
        }

        boolean everAllHave(int set, int day) {
            for (int date = 0; date < ROUND; date++) {
                if (allHave(set, day, date)) {
                    return true;
                }
            }
            return false;
        }

        /** Why a set who are there never all have a day: one who never has it, or the first two. */
        int whyNever(int set, int day) {
            for (int person = 0; person < PEOPLE; person++) {
                if ((set >> person & 1) == 1 && !everAllHave(1 << person, day)) {
                    return 11 * person;
                }
            }
            for (int person = 0; person < PEOPLE; person++) {
                for (int other = person + 1; other < PEOPLE; other++) {
                    int two = 1 << person | 1 << other;
                    if ((set & two) == two && !everAllHave(two, day)) {
                        return 10 * person + other;
                    }
                }
            }
            return NONE;
        }

        /** On how many dates a person has another day, once he takes a model's order and birth. */
        int cost(int person, int model) {
            return LUNAR - sharedDates(person, model, LUNAR);
        }

        int costOfAll(int model) {
            int sum = 0;
            for (int person = 0; person < PEOPLE; person++) {
                if (isThere(person)) {
                    sum += cost(person, model);
                }
            }
            return sum;
        }

        int datesApart() {
            int count = 0;
            for (int date = 0; date < LUNAR; date++) {
                if (commonDay(there, date) == NONE) {
                    count++;
                }
            }
            return count;
        }

        int fewestShared(int turn, int way, int birth) {
            int fewest = 2 * WEEK;
            for (int person = 0; person < PEOPLE; person++) {
                if (isThere(person)) {
                    int count = 0;
                    for (int date = birth; date < birth + 2 * WEEK; date++) {
                        count += dayOn(person, date) == bornDay(turn, way, birth, date) ? 1 : 0;
                    }
                    fewest = Math.min(fewest, count);
                }
            }
            return fewest;
        }

        int feastOn(int date) {
            for (int day = 0; day < DAYS; day++) {
                votes[day] = 0;
            }
            for (int person = 0; person < PEOPLE; person++) {
                int day = dayOn(person, date);
                if (isOneOf(day, DAYS)) {
                    votes[day]++;
                }
            }
            int most = 0;
            int feast = NONE;
            for (int day = 0; day < DAYS; day++) {
                if (votes[day] > most) {
                    most = votes[day];
                    feast = day;
                }
            }
            return feast;
        }

        boolean areTwins(int lesser, int greater) {
            return isDelayed(lesser, greater, -1) || isDelayed(lesser, greater, 1);
        }

        /** Whether the greater one always has the lesser one's day of so many dates on. */
        private boolean isDelayed(int lesser, int greater, int on) {
            for (int date = 0; date < ROUND; date++) {
                if (dayOn(greater, date) != dayOn(lesser, date + on)) {
                    return false;
                }
            }
            return true;
        }
    }

    /** The works that are told. */
    private static final class Plan {
        int count;
        final int[] days = new int[WORKS];
        final int[] people = new int[WORKS];

        void become(Plan other) {
            if (other == null) {
                return;
            }
            count = other.count;
            System.arraycopy(other.days, 0, days, 0, WORKS);
            System.arraycopy(other.people, 0, people, 0, WORKS);
        }

        void read(Pad pad) {
            if (pad == null) {
                return;
            }
            count = 0;
            for (int place = 0; place < pad.count; place++) {
                int sign = pad.signAt(place);
                int work = count - 1;
                if (isOneOf(sign - 'a', DAYS) && isOneOf(count, WORKS)) {
                    days[count] = sign - 'a';
                    people[count] = 0;
                    count++;
                } else if (isOneOf(sign - '0', PEOPLE) && isOneOf(work, WORKS)) {
                    people[work] |= 1 << (sign - '0');
                }
            }
        }

        int dayOf(int work) {
            return isOneOf(work, WORKS) ? days[work] : NONE;
        }

        int peopleOf(int work) {
            return isOneOf(work, WORKS) ? people[work] : 0;
        }
    }

    /** On which dates the well was shut, or was not. */
    private static final class Sights {
        int count;
        final int[] dates = new int[SIGHTS];
        final int[] shuts = new int[SIGHTS];

        void become(Sights other) {
            if (other == null) {
                return;
            }
            count = other.count;
            System.arraycopy(other.dates, 0, dates, 0, SIGHTS);
            System.arraycopy(other.shuts, 0, shuts, 0, SIGHTS);
        }

        boolean add(int date, int shut) {
            if (!isOneOf(count, SIGHTS)) {
                return false;
            }
            dates[count] = date;
            shuts[count] = shut;
            count++;
            return true;
        }

        int dateOf(int i) {
            return isOneOf(i, SIGHTS) ? dates[i] : 0;
        }

        boolean wasShut(int i) {
            return isOneOf(i, SIGHTS) && shuts[i] == 1;
        }
    }

    /** The most works of a plan that can be done in a month, and the date of each. */
    private static final class Month {
        /** Five other works can block five dates of a work at most: so its first six are enough. */
        static final int CHOICES = WORKS;

        int works;
        int most;
        final int[] people = new int[WORKS];
        final int[] counts = new int[WORKS];
        final int[] choices = new int[WORKS * CHOICES];
        final int[] tried = new int[WORKS];
        final int[] best = new int[WORKS];

        void settle(Land land, int date) {
            if (land == null) {
                return;
            }
            works = Math.min(land.plan.count, WORKS);
            most = -1;
            for (int work = 0; work < works; work++) {
                people[work] = land.plan.peopleOf(work);
                collect(land, work, date);
            }
            search(this, 0, 0);
        }

        int dateOf(int work) {
            return isOneOf(work, works) ? best[work] : NONE;
        }

        private void collect(Land land, int work, int from) {
            int count = 0;
            for (int date = from; date < from + MONTH && count < CHOICES; date++) {
                if (land.isDoable(work, date)) {
                    choices[work * CHOICES + count] = date;
                    count++;
                }
            }
            counts[work] = count;
        }

        /**
         * Tries the ways in the order in which they are to be preferred, so that of several with
         * as many works the first stays.
         */
        private static void search(Month m, int work, int done) {
            if (m == null || done + m.works - work <= m.most) {
                return;
            }
            if (!isOneOf(work, m.works)) {
                m.keep(done);
                return;
            }
            for (int i = 0; i < m.counts[work]; i++) {
                int date = m.choices[work * CHOICES + i];
                if (m.isFree(work, date)) {
                    m.tried[work] = date;
                    search(m, work + 1, done + 1);
                }
            }
            m.tried[work] = NONE;
            search(m, work + 1, done);
        }

        private void keep(int done) {
            most = done;
            System.arraycopy(tried, 0, best, 0, WORKS);
        }

        private boolean isFree(int work, int date) {
            for (int other = 0; other < work; other++) {
                if (tried[other] == date && (people[other] & people[work]) != 0) {
                    return false;
                }
            }
            return true;
        }
    }
}
