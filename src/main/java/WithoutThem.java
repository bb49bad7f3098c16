/** A house after dark: things that can be had by what is had already, as ../shared/DOC.md tells it. */
public final class WithoutThem {
    private static final int NOBODY = -1;
    private static final int OTHER = -2;
    private static final int STATE = -3;
    private static final int BELOW = -4;
    private static final int ROOM = -6;
    private static final int NONE = -9;
    private static final long REFUSED_LONG = 4000000000000000000L;

    private static final int MOST_THINGS = 10;
    private static final int MOST_SETS = 1024;
    private static final int MOST_LETTERS = 96;
    private static final int MOST_IN_ROW = 12;
    private static final int MOST_MINUTE = 9999;
    private static final int MOST_IN_DRAWER = 30;
    private static final int LAST_SEEKER = 5;

    private final House now;
    private final House then;
    private final House tried;
    private final Reader reader;
    private final Orders orders;
    private final int[] told;
    private final int[] refusals;
    private int inRow;
    private boolean imaged;

    public WithoutThem() {
        now = new House();
        then = new House();
        tried = new House();
        reader = new Reader();
        orders = new Orders();
        told = new int[MOST_IN_ROW];
        refusals = new int[7];
        inRow = 0;
        imaged = false;
    }

    public int letter(int c) {
        if (c < 0) {
            return refuse(BELOW);
        }
        if (c > 255 || reader.isFull()) {
            return refuse(ROOM);
        }
        return reader.hear(c);
    }

    public int house() {
        // A text with a FAULT changes nothing, so it is told to a copy first.
        tried.copyFrom(now);
        int answer = reader.readsWell() ? reader.tellEach(tried) : reader.faultHere();
        if (answer >= 0) {
            now.copyFrom(tried);
        }
        reader.forget();
        return answer;
    }

    public int thing(int thing, int what) {
        if (!now.isThing(thing)) {
            return refuse(NOBODY);
        }
        if (what < 0 || what > 7) {
            return refuse(OTHER);
        }
        return now.tell(thing, what);
    }

    public int need(int thing, int other, int what) {
        if (!now.isThing(thing) || !now.isThing(other) || thing == other) {
            return refuse(NOBODY);
        }
        if (isNoPart(what)) {
            return refuse(OTHER);
        }
        return what == 0 ? now.turnAny(thing, other) : now.turnAll(thing, other);
    }

    public int hand(int thing) {
        if (!now.isThing(thing)) {
            return refuse(NOBODY);
        }
        return now.turnHand(thing);
    }

    public int take(int thing) {
        if (!now.isThing(thing)) {
            return refuse(NOBODY);
        }
        if (!now.canBeHad(thing, now.had)) {
            return refuse(STATE);
        }
        if (now.minute + now.minutesOfGo(thing, now.had) > MOST_MINUTE) {
            return refuse(ROOM);
        }
        return now.takeIt(thing);
    }

    public int may() {
        return now.mayBy(now.had);
    }

    public int with(int things) {
        if (!now.isSet(things)) {
            return refuse(NOBODY);
        }
        return now.mayBy(things);
    }

    public int reach() {
        return now.reachFrom(now.had);
    }

    public int soonest(int things, int what) {
        if (!now.isSet(things)) {
            return refuse(NOBODY);
        }
        if (isNoPart(what)) {
            return refuse(OTHER);
        }
        orders.seek(now, things, false);
        if (!orders.found) {
            return NONE;
        }
        return what == 0 ? orders.fewest : orders.first;
    }

    public long mean(int things, int part) {
        if (!now.isSet(things)) {
            return refuseLong(NOBODY);
        }
        if (isNoPart(part)) {
            return refuseLong(OTHER);
        }
        orders.seek(now, things, true);
        long shares = orders.found ? orders.fewest : 0;
        return Fraction.partOf(shares, Orders.SHARES, part);
    }

    public long surely(int part) {
        if (isNoPart(part)) {
            return refuseLong(OTHER);
        }
        return now.chanceOf(now.reachFrom(now.had) & ~now.had, part);
    }

    public int ringed() {
        return Search.ringedIn(now);
    }

    public int beg(int what) {
        if (isNoPart(what)) {
            return refuse(OTHER);
        }
        int begged = Search.cheapestBegged(now);
        return what == 0 ? now.costOf(begged) : begged;
    }

    public int nails() {
        return Search.fewestNails(now);
    }

    public int spare() {
        return Search.bestSpare(now);
    }

    public int does(int thing) {
        if (!now.isThing(thing)) {
            return refuse(NOBODY);
        }
        return Search.lostWithout(now, thing);
    }

    public int ways(int things) {
        int refusal = refusalOfWay(things);
        if (refusal != 0) {
            return refuse(refusal);
        }
        return orders.countTo(now, things);
    }

    public int must(int things) {
        int refusal = refusalOfWay(things);
        if (refusal != 0) {
            return refuse(refusal);
        }
        return Search.neededWithin(now, things);
    }

    public int halfway(int things, int k) {
        int refusal = refusalOfWay(things);
        if (refusal != 0) {
            return refuse(refusal);
        }
        if (k < 0) {
            return refuse(BELOW);
        }
        if (k > Integer.bitCount(things & ~now.had)) {
            return refuse(ROOM);
        }
        return orders.hadInAll(now, things, k);
    }

    public long drawer(int n, int m, int part) {
        if (n < 1 || m < 0) {
            return refuseLong(BELOW);
        }
        if (n > MOST_IN_DRAWER || m > n) {
            return refuseLong(ROOM);
        }
        if (isNoPart(part)) {
            return refuseLong(OTHER);
        }
        // The 1st, the 2nd .. the last unknown one, each alike likely: (1 + unknown) by 2.
        int unknown = Math.max(n - m, 1);
        return Fraction.partOf(unknown + 1, 2, part);
    }

    public int seeker(int kind, int k) {
        if (isNoSeeker(kind)) {
            return refuse(OTHER);
        }
        if (k < 0) {
            return refuse(BELOW);
        }
        return Seeker.takenAt(now, kind, k);
    }

    public int seeks(int kind) {
        if (isNoSeeker(kind)) {
            return refuse(OTHER);
        }
        return Seeker.minutesOfAll(now, kind);
    }

    public int row(int v) {
        if (v < 0) {
            return refuse(BELOW);
        }
        if (v >= MOST_THINGS || inRow >= MOST_IN_ROW) {
            return refuse(ROOM);
        }
        Rows.put(told, inRow, v);
        inRow++;
        return inRow;
    }

    public int judge() {
        int judged = Search.firstNotHad(now, told, inRow);
        inRow = 0;
        return judged;
    }

    public int lots(int kind, int z) {
        if (isNoSeeker(kind)) {
            return refuse(OTHER);
        }
        return Seeker.minutesByLot(now, kind, z);
    }

    public int image() {
        then.copyFrom(now);
        imaged = true;
        return now.minute;
    }

    public int on() {
        if (!imaged) {
            return refuse(STATE);
        }
        now.copyFrom(then);
        return now.minute;
    }

    public int count(int what) {
        switch (what) {
            case 0:
                return now.things;
            case 1:
                return Integer.bitCount(now.had);
            case 2:
                return now.minute;
            case 3:
                return Integer.bitCount(now.barred());
            case 4:
                return now.costOf(now.everything());
            case 5:
                return inRow;
            case 6:
                return reader.letters;
            default:
                return what >= 11 && what <= 16 ? Rows.get(refusals, what - 10) : NONE;
        }
    }

    private int refuse(int refusal) {
        Rows.put(refusals, -refusal, Rows.get(refusals, -refusal) + 1);
        return refusal;
    }

    private long refuseLong(int refusal) {
        return REFUSED_LONG - refuse(refusal);
    }

    private int refusalOfWay(int things) {
        if (!now.isSet(things)) {
            return NOBODY;
        }
        return (now.had & ~things) != 0 ? STATE : 0;
    }

    private static boolean isNoPart(int part) {
        return part < 0 || part > 1;
    }

    private static boolean isNoSeeker(int kind) {
        return kind < 0 || kind > LAST_SEEKER;
    }

    /** Rows of ints, read and written only where there is a place. */
    private static final class Rows {
        static int get(int[] row, int at) {
            return row != null && at >= 0 && at < row.length ? row[at] : 0;
        }

        static void put(int[] row, int at, int value) {
            if (row != null && at >= 0 && at < row.length) {
                row[at] = value;
            }
        }

        static void copy(int[] from, int[] into) {
            if (from == null || into == null) {
                return;
            }
            for (int i = 0; i < from.length && i < into.length; i++) {
                into[i] = from[i];
            }
        }
    }

    /** Fractions of whole numbers that are not below 0. */
    private static final class Fraction {
        static long partOf(long above, long below, int part) {
            long shared = greatestShared(above, below);
            long asked = part == 0 ? above : below;
            return shared > 0 ? asked / shared : asked;
        }

        private static long greatestShared(long one, long other) {
            long greater = one;
            long rest = other;
            // Each two steps halve the rest at least: a long has done by 128.
            for (int i = 0; i < 128 && rest != 0; i++) {
                long next = greater % rest;
                greater = rest;
                rest = next;
            }
            return greater;
        }
    }

    /** The THINGS, the HAND and the MINUTE. */
    private static final class House {
        static final int PLAIN = 0;
        static final int BOTH = 1;
        static final int LIT = 2;
        static final int FELT = 3;
        static final int WIDE = 4;
        static final int PAIR = 5;

        final int[] kinds = new int[MOST_THINGS];
        final int[] minutes = new int[MOST_THINGS];
        final int[] sures = new int[MOST_THINGS];
        final int[] costs = new int[MOST_THINGS];
        final int[] anys = new int[MOST_THINGS];
        final int[] alls = new int[MOST_THINGS];
        int things;
        int had;
        int minute;

        void copyFrom(House other) {
            Rows.copy(other.kinds, kinds);
            Rows.copy(other.minutes, minutes);
            Rows.copy(other.sures, sures);
            Rows.copy(other.costs, costs);
            Rows.copy(other.anys, anys);
            Rows.copy(other.alls, alls);
            things = other.things;
            had = other.had;
            minute = other.minute;
        }

        boolean isThing(int thing) {
            return thing >= 0 && thing < things;
        }

        int everything() {
            return (1 << things) - 1;
        }

        boolean isSet(int set) {
            return (set & ~everything()) == 0;
        }

        int tell(int thing, int what) {
            switch (what) {
                case 0:
                    return Rows.get(kinds, thing);
                case 1:
                    return Rows.get(minutes, thing);
                case 2:
                    return Rows.get(sures, thing);
                case 3:
                    return Rows.get(costs, thing);
                case 4:
                    return Rows.get(anys, thing);
                case 5:
                    return Rows.get(alls, thing);
                case 6:
                    return minutesOfGo(thing, had);
                default:
                    return had >> thing & 1;
            }
        }

        boolean addThing(int kind, int itsMinutes, int itsSure) {
            boolean inRange = itsMinutes >= 1 && itsMinutes <= 30 && itsSure >= 1 && itsSure <= 10;
            if (!inRange || things >= MOST_THINGS) {
                return false;
            }
            Rows.put(kinds, things, kind);
            Rows.put(minutes, things, itsMinutes);
            Rows.put(sures, things, itsSure);
            Rows.put(costs, things, 1);
            Rows.put(anys, things, 0);
            Rows.put(alls, things, 0);
            things++;
            return true;
        }

        int turnAny(int thing, int other) {
            return turn(anys, thing, other);
        }

        int turnAll(int thing, int other) {
            return turn(alls, thing, other);
        }

        private static int turn(int[] sets, int thing, int other) {
            int set = Rows.get(sets, thing) ^ 1 << other;
            Rows.put(sets, thing, set);
            return set >> other & 1;
        }

        int turnHand(int thing) {
            had ^= 1 << thing;
            return had >> thing & 1;
        }

        int takeIt(int thing) {
            minute += minutesOfGo(thing, had);
            had |= 1 << thing;
            return minute;
        }

        int minutesOfGo(int thing, int by) {
            int told = Rows.get(minutes, thing);
            int lit = (by & 1) != 0 ? (told + 1) / 2 : told;
            switch (Rows.get(kinds, thing)) {
                case LIT:
                    return lit;
                case WIDE:
                    return told + Integer.bitCount(by);
                case PAIR:
                    return (by & 2) != 0 ? lit : 2 * lit;
                default:
                    return told;
            }
        }

        boolean canBeHad(int thing, int by) {
            if (!isThing(thing) || (by >> thing & 1) != 0) {
                return false;
            }
            int kind = Rows.get(kinds, thing);
            int any = Rows.get(anys, thing);
            int mostAsked = kind == BOTH || kind == WIDE ? 2 : 1;
            boolean someOfAny = Integer.bitCount(any & by) >= Math.min(mostAsked, Integer.bitCount(any));
            boolean allOfAll = (Rows.get(alls, thing) & ~by) == 0;
            return kind == FELT ? someOfAny || allOfAll : someOfAny && allOfAll;
        }

        int mayBy(int by) {
            int set = 0;
            for (int thing = 0; thing < things; thing++) {
                if (canBeHad(thing, by)) {
                    set |= 1 << thing;
                }
            }
            return set;
        }

        int reachFrom(int from) {
            return reachWithin(from, everything());
        }

        int reachWithin(int from, int allowed) {
            int set = from;
            // Each round but the last brings one THING at least.
            for (int round = 0; round < MOST_THINGS; round++) {
                int more = mayBy(set) & allowed;
                if (more == 0) {
                    break;
                }
                set |= more;
            }
            return set;
        }

        int barred() {
            return everything() & ~reachWithin(had, everything());
        }

        int costOf(int set) {
            int sum = 0;
            for (int thing = 0; thing < things; thing++) {
                sum += (set >> thing & 1) * Rows.get(costs, thing);
            }
            return sum;
        }

        long chanceOf(int set, int part) {
            long above = 1;
            long below = 1;
            for (int thing = 0; thing < things; thing++) {
                if ((set >> thing & 1) != 0) {
                    above *= Rows.get(sures, thing);
                    below *= 10;
                }
            }
            return Fraction.partOf(above, below, part);
        }
    }

    /** The letters, and how they are read as STATEMENTS. */
    private static final class Reader {
        private final int[] text = new int[MOST_LETTERS];
        int letters;
        private int place;
        private int sign;
        private int kind;
        private int first;
        private int second;

        boolean isFull() {
            return letters >= MOST_LETTERS;
        }

        int hear(int c) {
            Rows.put(text, letters, c);
            letters++;
            return letters;
        }

        void forget() {
            letters = 0;
        }

        /** False leaves the place at the letter with which no HOUSE can go on. */
        boolean readsWell() {
            place = 0;
            boolean well = letters > 0;
            for (int i = 0; i < MOST_LETTERS && well && place < letters; i++) {
                well = readStatement();
            }
            return well;
        }

        int faultHere() {
            return -1000 - place;
        }

        /** How many STATEMENTS came into the house, or the FAULT of one that is not as it must be. */
        int tellEach(House house) {
            place = 0;
            int told = 0;
            for (int i = 0; i < MOST_LETTERS && place < letters; i++) {
                int start = place;
                if (!readStatement() || !tellOne(house)) {
                    return -2000 - start;
                }
                told++;
            }
            return told;
        }

        private boolean tellOne(House house) {
            if (sign == 't') {
                return house.addThing(kind, first, second);
            }
            if (!house.isThing(first)) {
                return false;
            }
            if (sign == 'c') {
                Rows.put(house.costs, first, second);
                return true;
            }
            if (sign == 'h') {
                house.turnHand(first);
                return true;
            }
            if (!house.isThing(second) || first == second) {
                return false;
            }
            if (sign == 'n') {
                house.turnAny(first, second);
            } else {
                house.turnAll(first, second);
            }
            return true;
        }

        private boolean readStatement() {
            sign = here();
            switch (sign) {
                case 't':
                    place++;
                    return readThing() && passes(';');
                case 'n':
                case 'a':
                case 'c':
                    place++;
                    return readFirst() && readSecond() && passes(';');
                case 'h':
                    place++;
                    return readFirst() && passes(';');
                default:
                    return false;
            }
        }

        private boolean readThing() {
            kind = kindOf(here());
            if (kind < 0) {
                return false;
            }
            place++;
            first = readNumber();
            if (first < 0 || !passes(',')) {
                return false;
            }
            second = readNumber();
            return second >= 0;
        }

        private boolean readFirst() {
            first = readDigit();
            return first >= 0;
        }

        private boolean readSecond() {
            second = readDigit();
            return second >= 0;
        }

        /** One or two digits; -1 if there is none. */
        private int readNumber() {
            int tens = readDigit();
            if (tens < 0) {
                return -1;
            }
            int ones = readDigit();
            return ones < 0 ? tens : tens * 10 + ones;
        }

        /** -1 if there is none. */
        private int readDigit() {
            int c = here();
            if (c < '0' || c > '9') {
                return -1;
            }
            place++;
            return c - '0';
        }

        private boolean passes(int c) {
            if (here() != c) {
                return false;
            }
            place++;
            return true;
        }

        private int here() {
            return place >= 0 && place < letters && place < text.length ? text[place] : -1;
        }

        private static int kindOf(int c) {
            switch (c) {
                case 't':
                    return House.PLAIN;
                case 'b':
                    return House.BOTH;
                case 'l':
                    return House.LIT;
                case 'f':
                    return House.FELT;
                case 'w':
                    return House.WIDE;
                case 'p':
                    return House.PAIR;
                default:
                    return -1;
            }
        }
    }

    /** What is asked of REACH alone. That only grows with what is had. */
    private static final class Search {
        static int ringedIn(House house) {
            int barred = house.barred();
            int ringed = 0;
            for (int one = 0; one < house.things; one++) {
                if ((barred >> one & 1) == 0) {
                    continue;
                }
                int brought = house.reachFrom(house.had | 1 << one) & barred & ~(1 << one);
                for (int other = 0; other < house.things; other++) {
                    boolean isBrought = (brought >> other & 1) != 0;
                    if (isBrought && (house.reachFrom(house.had | 1 << other) >> one & 1) != 0) {
                        ringed |= 1 << one;
                    }
                }
            }
            return ringed;
        }

        static int cheapestBegged(House house) {
            int all = house.everything();
            int barred = house.barred();
            int best = barred;
            int least = house.costOf(barred);
            // What is not BARRED helps nothing when it is begged, and makes the bits more.
            for (int set = 0; set < barred; set++) {
                if ((set & ~barred) != 0) {
                    continue;
                }
                int cost = house.costOf(set);
                boolean better = cost < least || cost == least && set < best;
                if (better && house.reachFrom(house.had | set) == all) {
                    best = set;
                    least = cost;
                }
            }
            return best;
        }

        static int fewestNails(House house) {
            int all = house.everything();
            for (int size = 0; size < house.things; size++) {
                for (int set = 0; set < all; set++) {
                    if (Integer.bitCount(set) == size && house.reachFrom(set) == all) {
                        return set;
                    }
                }
            }
            return all;
        }

        static int bestSpare(House house) {
            int best = NONE;
            int most = -1;
            for (int thing = 0; thing < house.things; thing++) {
                if ((house.had >> thing & 1) != 0) {
                    continue;
                }
                int reached = Integer.bitCount(house.reachFrom(house.had | 1 << thing));
                if (reached > most) {
                    best = thing;
                    most = reached;
                }
            }
            return best;
        }

        static int lostWithout(House house, int thing) {
            int others = house.everything() & ~(1 << thing);
            int left = house.reachWithin(house.had & others, others);
            return house.reachFrom(house.had) & ~house.had & ~left;
        }

        static int neededWithin(House house, int set) {
            int needed = 0;
            for (int thing = 0; thing < house.things; thing++) {
                int bit = 1 << thing;
                int others = set & ~bit;
                boolean comes = (set & ~house.had & bit) != 0;
                if (comes && house.reachWithin(house.had, others) != others) {
                    needed |= bit;
                }
            }
            return needed;
        }

        static int firstNotHad(House house, int[] row, int length) {
            int by = house.had;
            for (int i = 0; i < length; i++) {
                int thing = Rows.get(row, i);
                if (!house.canBeHad(thing, by)) {
                    return thing;
                }
                by |= 1 << thing;
            }
            return NONE;
        }
    }

    /** What is asked of orders in which THINGS come: a row over all sets, the lesser ones first. */
    private static final class Orders {
        /** MINUTES in the mean are told in these shares, which every SURE divides. */
        static final int SHARES = 2520;
        private static final int NEVER = -1;

        private final int[] least = new int[MOST_SETS];
        private final int[] leads = new int[MOST_SETS];
        private final int[] counts = new int[MOST_SETS];
        boolean found;
        int fewest;
        int first;

        /** Sets found, fewest (MINUTES, or SHARES of them in the mean) and first. */
        void seek(House house, int wanted, boolean inMean) {
            walk(house, inMean);
            found = false;
            fewest = 0;
            first = NONE;
            for (int set = house.had; set <= house.everything(); set++) {
                int price = Rows.get(least, set);
                if (price == NEVER || (wanted & ~set) != 0) {
                    continue;
                }
                int lead = Rows.get(leads, set);
                if (!found || price < fewest || price == fewest && lead < first) {
                    found = true;
                    fewest = price;
                    first = lead;
                }
            }
        }

        private void walk(House house, boolean inMean) {
            int all = house.everything();
            for (int set = 0; set <= all; set++) {
                Rows.put(least, set, NEVER);
            }
            Rows.put(least, house.had, 0);
            Rows.put(leads, house.had, NONE);
            for (int set = house.had; set <= all; set++) {
                int next = Rows.get(least, set) == NEVER ? 0 : house.mayBy(set);
                for (int thing = 0; thing < house.things; thing++) {
                    if ((next >> thing & 1) != 0) {
                        step(house, set, thing, inMean);
                    }
                }
            }
        }

        private void step(House house, int set, int thing, boolean inMean) {
            int price = Rows.get(least, set) + priceOfGo(house, set, thing, inMean);
            int lead = set == house.had ? thing : Rows.get(leads, set);
            int next = set | 1 << thing;
            int known = Rows.get(least, next);
            boolean earlier = price == known && lead < Rows.get(leads, next);
            if (known == NEVER || price < known || earlier) {
                Rows.put(least, next, price);
                Rows.put(leads, next, lead);
            }
        }

        private static int priceOfGo(House house, int set, int thing, boolean inMean) {
            int minutes = house.minutesOfGo(thing, set);
            int sure = Rows.get(house.sures, thing);
            return inMean && sure > 0 ? minutes * (10 * SHARES / sure) : minutes;
        }

        /** In how many orders just the wanted set comes; leaves how many each set on the way has. */
        int countTo(House house, int wanted) {
            for (int set = 0; set <= wanted; set++) {
                Rows.put(counts, set, 0);
            }
            Rows.put(counts, house.had, 1);
            for (int set = house.had; set < wanted; set++) {
                int come = Rows.get(counts, set);
                int next = come == 0 ? 0 : house.mayBy(set) & wanted;
                for (int thing = 0; thing < house.things; thing++) {
                    if ((next >> thing & 1) != 0) {
                        int more = set | 1 << thing;
                        Rows.put(counts, more, Rows.get(counts, more) + come);
                    }
                }
            }
            return Rows.get(counts, wanted);
        }

        int hadInAll(House house, int wanted, int k) {
            if (countTo(house, wanted) == 0) {
                return NONE;
            }
            int size = Integer.bitCount(house.had) + k;
            int inAll = wanted;
            // What MAY be had once may be had with more: each set that came goes on to the wanted one.
            for (int set = house.had; set <= wanted; set++) {
                if (Rows.get(counts, set) != 0 && Integer.bitCount(set) == size) {
                    inAll &= set;
                }
            }
            return inAll;
        }
    }

    /** SEEKERS: which THING each kind takes, and how long it goes on. */
    private static final class Seeker {
        private static final int MOST_GOES = 60;
        private static final int TENTHS = 10;
        private static final int WITHOUT_SIGN = 0x7fffffff;

        static int takenAt(House house, int kind, int k) {
            int by = house.had;
            for (int i = 0; i < MOST_THINGS; i++) {
                int thing = chosen(house, kind, by);
                if (thing == NONE || i == k) {
                    return thing;
                }
                by |= 1 << thing;
            }
            return NONE;
        }

        static int minutesOfAll(House house, int kind) {
            int by = house.had;
            int sum = 0;
            for (int i = 0; i < MOST_THINGS; i++) {
                int thing = chosen(house, kind, by);
                if (thing == NONE) {
                    break;
                }
                sum += house.minutesOfGo(thing, by);
                by |= 1 << thing;
            }
            return sum;
        }

        static int minutesByLot(House house, int kind, int seed) {
            int by = house.had;
            int sum = 0;
            int z = seed;
            for (int i = 0; i < MOST_GOES; i++) {
                int thing = chosen(house, kind, by);
                if (thing == NONE) {
                    break;
                }
                sum += house.minutesOfGo(thing, by);
                z = z * 1664525 + 1013904223;
                int draw = (z & WITHOUT_SIGN) / 256 % TENTHS;
                if (draw < Rows.get(house.sures, thing)) {
                    by |= 1 << thing;
                }
            }
            return sum;
        }

        private static int chosen(House house, int kind, int by) {
            int open = house.mayBy(by);
            int best = NONE;
            int least = 0;
            for (int thing = 0; thing < house.things; thing++) {
                if ((open >> thing & 1) == 0) {
                    continue;
                }
                int rank = rankOf(house, kind, thing, by);
                if (best == NONE || rank < least) {
                    best = thing;
                    least = rank;
                }
            }
            return best;
        }

        /** The least is taken. */
        private static int rankOf(House house, int kind, int thing, int by) {
            switch (kind) {
                case 1:
                    return house.minutesOfGo(thing, by);
                case 2:
                    return -Rows.get(house.sures, thing);
                case 3:
                    return -Integer.bitCount(house.mayBy(by | 1 << thing));
                case 4:
                    return Rows.get(house.sures, thing);
                case 5:
                    return Rows.get(house.costs, thing);
                default:
                    return 0;
            }
        }
    }
}
