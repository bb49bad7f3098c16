import java.math.BigInteger;
import java.util.ArrayList;
import java.util.Comparator;
import java.util.List;
import java.util.Set;
import java.util.TreeSet;
import java.util.regex.Matcher;
import java.util.regex.Pattern;

/**
 * Many told runs of calls, right and wrong, against a second program that is written another way: sets of
 * numbers, every order gone through one by one, texts read by patterns. Nothing may be thrown either.
 */
public final class ModelTest {
    private static final int RUNS = 400;
    private static final int CALLS = 512;

    private static int wrong = 0;
    private static long lot = 20261118;

    private static int below(int n) {
        lot = lot * 6364136223846793005L + 1442695040888963407L;
        return (int) ((lot >>> 33) % n);
    }

    public static void main(String[] args) {
        for (int run = 0; run < RUNS && wrong < 10; run++) {
            oneRun(run);
        }
        System.out.println(wrong == 0 ? "both programs answer alike" : wrong + " answers are not alike");
        if (wrong != 0) {
            System.exit(1);
        }
    }

    private static void oneRun(int run) {
        WithoutThem x = new WithoutThem();
        Model m = new Model(run % 3 == 0 ? 10 : 5);
        List<String> log = new ArrayList<>();
        String text = "";
        int before = wrong;
        for (int call = 0; call < CALLS && wrong == before; call++) {
            if (text.isEmpty() && (call < 100 ? below(4) == 0 : below(60) == 0)) {
                text = someText(m);
            }
            if (!text.isEmpty()) {
                int c = text.charAt(0);
                text = text.substring(1);
                alike(run, log, c == '!' ? "house()" : "letter(" + c + ")",
                    c == '!' ? x.house() : x.letter(c), c == '!' ? m.house() : m.letter(c));
                continue;
            }
            someCall(run, log, x, m);
        }
        for (int i = 0; i < 18 && wrong == before; i++) {
            alike(run, log, "count(" + i + ")", x.count(i), m.count(i));
        }
    }

    private static void alike(int run, List<String> log, String call, long got, long want) {
        log.add(call + "=" + want);
        if (got != want) {
            wrong++;
            System.out.println("run " + run + ": " + call + " answered " + got + ", the model " + want + " behind " + log);
        }
    }

    private static String someText(Model m) {
        StringBuilder text = new StringBuilder();
        int things = m.things.size();
        int last = things == 0 ? 8 : 5;
        for (int i = below(last) + (things == 0 ? 3 : 0); i >= 0 && text.length() < 85; i--) {
            int a = below(Math.max(things, 1));
            int b = below(Math.max(things, 1) + (below(9) == 0 ? 2 : 0));
            int what = below(things == 0 || things < m.most && below(3) == 0 ? 2 : 12);
            if (what < 2 && (things < m.most || below(8) == 0)) {
                text.append('t').append("tblfwp".charAt(below(6))).append(below(10) == 0 ? below(100) : 1 + below(12))
                    .append(',').append(below(10) == 0 ? "0" + below(10) : 1 + below(10)).append(';');
                things++;
            } else if (what < 6) {
                text.append('n').append(a).append(b).append(';');
            } else if (what < 9) {
                text.append('a').append(a).append(b).append(';');
            } else if (what == 9) {
                text.append('h').append(a).append(';');
            } else {
                text.append('c').append(a).append(below(10)).append(';');
            }
        }
        if (text.length() > 0 && below(8) == 0) {
            text.setCharAt(below(text.length()), "tblfwpnahc;,0129x".charAt(below(17)));
        }
        if (text.length() > 0 && below(12) == 0) {
            text.setLength(below(text.length()));
        }
        return below(40) == 0 ? text.toString() : text + "!";
    }

    private static int someThing(Model m) {
        return below(15) == 0 ? below(14) - 2 : below(Math.max(m.things.size(), 1));
    }

    private static int someSet(Model m) {
        if (below(20) == 0) {
            return new int[] {-1, 1 << 10, Integer.MIN_VALUE, Integer.MAX_VALUE, 1023, 1 << m.things.size()}[below(6)];
        }
        int set = below(1 << m.things.size());
        return below(2) == 0 ? set | Model.bits(m.had) : set;
    }

    private static int someWhat(int most) {
        return below(25) == 0 ? new int[] {-1, most + 1, Integer.MIN_VALUE, Integer.MAX_VALUE}[below(4)] : below(most + 1);
    }

    private static void someCall(int run, List<String> log, WithoutThem x, Model m) {
        int a = someThing(m);
        int b = someThing(m);
        int s = someSet(m);
        int w = someWhat(1);
        int k = below(30) == 0 ? -1 - below(9) : below(m.things.size() + 2);
        int kind = someWhat(5);
        switch (below(34)) {
            case 0: { int v = someWhat(7); alike(run, log, "thing(" + a + "," + v + ")", x.thing(a, v), m.thing(a, v)); break; }
            case 1: case 2: alike(run, log, "need(" + a + "," + b + "," + w + ")", x.need(a, b, w), m.need(a, b, w)); break;
            case 3: alike(run, log, "hand(" + a + ")", x.hand(a), m.hand(a)); break;
            case 4: alike(run, log, "take(" + a + ")", x.take(a), m.take(a)); break;
            case 5: alike(run, log, "may()", x.may(), m.may()); break;
            case 6: alike(run, log, "with(" + s + ")", x.with(s), m.with(s)); break;
            case 7: alike(run, log, "reach()", x.reach(), m.reach()); break;
            case 8: case 9: alike(run, log, "soonest(" + s + "," + w + ")", x.soonest(s, w), m.soonest(s, w)); break;
            case 10: case 11: alike(run, log, "mean(" + s + "," + w + ")", x.mean(s, w), m.mean(s, w)); break;
            case 12: alike(run, log, "surely(" + w + ")", x.surely(w), m.surely(w)); break;
            case 13: alike(run, log, "ringed()", x.ringed(), m.ringed()); break;
            case 14: alike(run, log, "beg(" + w + ")", x.beg(w), m.beg(w)); break;
            case 15: alike(run, log, "nails()", x.nails(), m.nails()); break;
            case 16: alike(run, log, "spare()", x.spare(), m.spare()); break;
            case 17: alike(run, log, "does(" + a + ")", x.does(a), m.does(a)); break;
            case 18: case 19: alike(run, log, "ways(" + s + ")", x.ways(s), m.ways(s)); break;
            case 20: alike(run, log, "must(" + s + ")", x.must(s), m.must(s)); break;
            case 21: case 22: alike(run, log, "halfway(" + s + "," + k + ")", x.halfway(s, k), m.halfway(s, k)); break;
            case 23: {
                int n = below(35) - 1;
                int known = below(33) - 1;
                alike(run, log, "drawer(" + n + "," + known + "," + w + ")", x.drawer(n, known, w), m.drawer(n, known, w));
                break;
            }
            case 24: case 25: alike(run, log, "seeker(" + kind + "," + k + ")", x.seeker(kind, k), m.seeker(kind, k)); break;
            case 26: alike(run, log, "seeks(" + kind + ")", x.seeks(kind), m.seeks(kind)); break;
            case 27: case 28: { int v = below(3) == 0 ? below(12) - 1 : a; alike(run, log, "row(" + v + ")", x.row(v), m.row(v)); break; }
            case 29: if (below(3) == 0) { alike(run, log, "judge()", x.judge(), m.judge()); } break;
            case 30: { int z = below(Integer.MAX_VALUE) * (1 - 2 * below(2)); alike(run, log, "lots(" + kind + "," + z + ")", x.lots(kind, z), m.lots(kind, z)); break; }
            case 31: if (below(3) == 0) { alike(run, log, "image()", x.image(), m.image()); } break;
            case 32: if (below(3) == 0) { alike(run, log, "on()", x.on(), m.on()); } break;
            default: { int v = below(20) - 1; alike(run, log, "count(" + v + ")", x.count(v), m.count(v)); break; }
        }
    }

    /** A THING of the model. */
    private static final class Told {
        char kind;
        int minutes;
        int sure;
        int cost = 1;
        TreeSet<Integer> any = new TreeSet<>();
        TreeSet<Integer> all = new TreeSet<>();

        Told copy() {
            Told t = new Told();
            t.kind = kind;
            t.minutes = minutes;
            t.sure = sure;
            t.cost = cost;
            t.any = new TreeSet<>(any);
            t.all = new TreeSet<>(all);
            return t;
        }
    }

    /** A fraction of whole numbers without a greatest. */
    private record Part(BigInteger above, BigInteger below) {
        static Part of(long above, long below) {
            return new Part(BigInteger.valueOf(above), BigInteger.valueOf(below));
        }

        Part plus(Part o) {
            return new Part(above.multiply(o.below).add(o.above.multiply(below)), below.multiply(o.below));
        }

        int compareTo(Part o) {
            return above.multiply(o.below).compareTo(o.above.multiply(below));
        }

        long tell(int part) {
            return (part == 0 ? above : below).divide(above.gcd(below)).longValueExact();
        }
    }

    /** The document a second time, without regard to speed. */
    private static final class Model {
        static final Pattern HOUSE = Pattern.compile("(t[tblfwp]\\d\\d?,\\d\\d?;|n\\d\\d;|a\\d\\d;|c\\d\\d;|h\\d;)+");
        static final Pattern STATEMENT = Pattern.compile("[^;]*;");

        final int most;
        List<Told> things = new ArrayList<>();
        TreeSet<Integer> had = new TreeSet<>();
        int minute = 0;
        final StringBuilder letters = new StringBuilder();
        final List<Integer> told = new ArrayList<>();
        final int[] refused = new int[7];
        List<Told> thenThings = null;
        TreeSet<Integer> thenHad = null;
        int thenMinute = 0;

        Model(int most) {
            this.most = most;
        }

        static int bits(Set<Integer> set) {
            int b = 0;
            for (int i : set) {
                b += 1 << i;
            }
            return b;
        }

        static TreeSet<Integer> setOf(int bits) {
            TreeSet<Integer> s = new TreeSet<>();
            for (int i = 0; i < 10; i++) {
                if ((bits & 1 << i) != 0) {
                    s.add(i);
                }
            }
            return s;
        }

        static TreeSet<Integer> with(Set<Integer> set, int more) {
            TreeSet<Integer> s = new TreeSet<>(set);
            s.add(more);
            return s;
        }

        int no(int number) {
            refused[-number]++;
            return number;
        }

        long noLong(int number) {
            return 4000000000000000000L - no(number);
        }

        boolean is(int t) {
            return t >= 0 && t < things.size();
        }

        boolean isSet(int s) {
            return s >= 0 && s < 1 << things.size();
        }

        TreeSet<Integer> all() {
            return setOf((1 << things.size()) - 1);
        }

        int letter(int c) {
            if (c < 0) {
                return no(-4);
            }
            if (c > 255 || letters.length() == 96) {
                return no(-6);
            }
            letters.append((char) c);
            return letters.length();
        }

        int house() {
            String text = letters.toString();
            letters.setLength(0);
            for (int p = 0; p < text.length(); p++) {
                Matcher m = HOUSE.matcher(text.substring(0, p + 1));
                if (!m.matches() && !m.hitEnd()) {
                    return -1000 - p;
                }
            }
            if (!HOUSE.matcher(text).matches()) {
                return -1000 - text.length();
            }
            List<Told> oldThings = things;
            TreeSet<Integer> oldHad = had;
            things = copy(things);
            had = new TreeSet<>(had);
            int statements = 0;
            Matcher m = STATEMENT.matcher(text);
            while (m.find()) {
                if (!statement(m.group())) {
                    things = oldThings;
                    had = oldHad;
                    return -2000 - m.start();
                }
                statements++;
            }
            return statements;
        }

        static List<Told> copy(List<Told> from) {
            List<Told> c = new ArrayList<>();
            for (Told t : from) {
                c.add(t.copy());
            }
            return c;
        }

        static void turn(Set<Integer> set, int i) {
            if (!set.remove(i)) {
                set.add(i);
            }
        }

        boolean statement(String s) {
            char sign = s.charAt(0);
            if (sign == 't') {
                String[] numbers = s.substring(2, s.length() - 1).split(",");
                Told t = new Told();
                t.kind = s.charAt(1);
                t.minutes = Integer.parseInt(numbers[0]);
                t.sure = Integer.parseInt(numbers[1]);
                things.add(t);
                return t.minutes > 0 && t.minutes <= 30 && t.sure > 0 && t.sure <= 10 && things.size() <= 10;
            }
            int a = s.charAt(1) - '0';
            int b = s.charAt(2) - '0';
            if (!is(a)) {
                return false;
            }
            if (sign == 'h') {
                turn(had, a);
            } else if (sign == 'c') {
                things.get(a).cost = b;
            } else {
                if (!is(b) || a == b) {
                    return false;
                }
                turn(sign == 'n' ? things.get(a).any : things.get(a).all, b);
            }
            return true;
        }

        int thing(int t, int what) {
            if (!is(t)) {
                return no(-1);
            }
            if (what < 0 || what > 7) {
                return no(-2);
            }
            Told it = things.get(t);
            return new int[] {"tblfwp".indexOf(it.kind), it.minutes, it.sure, it.cost, bits(it.any), bits(it.all),
                go(t, had), had.contains(t) ? 1 : 0}[what];
        }

        int need(int t, int o, int what) {
            if (!is(t) || !is(o) || t == o) {
                return no(-1);
            }
            if (what != 0 && what != 1) {
                return no(-2);
            }
            Set<Integer> set = what == 0 ? things.get(t).any : things.get(t).all;
            turn(set, o);
            return set.contains(o) ? 1 : 0;
        }

        int hand(int t) {
            if (!is(t)) {
                return no(-1);
            }
            turn(had, t);
            return had.contains(t) ? 1 : 0;
        }

        int take(int t) {
            if (!is(t)) {
                return no(-1);
            }
            if (!may(had).contains(t)) {
                return no(-3);
            }
            if (minute + go(t, had) >= 10000) {
                return no(-6);
            }
            minute += go(t, had);
            had.add(t);
            return minute;
        }

        int go(int t, Set<Integer> by) {
            Told it = things.get(t);
            int half = by.contains(0) ? it.minutes - it.minutes / 2 : it.minutes;
            switch (it.kind) {
                case 'l': return half;
                case 'w': return it.minutes + by.size();
                case 'p': return by.contains(1) ? half : half + half;
                default: return it.minutes;
            }
        }

        boolean open(int t, Set<Integer> by) {
            Told it = things.get(t);
            int hits = 0;
            for (int i : it.any) {
                hits += by.contains(i) ? 1 : 0;
            }
            boolean two = "bw".indexOf(it.kind) >= 0;
            boolean any = it.any.isEmpty() || hits >= (two && it.any.size() > 1 ? 2 : 1);
            boolean all = by.containsAll(it.all);
            return it.kind == 'f' ? any || all : any && all;
        }

        TreeSet<Integer> may(Set<Integer> by) {
            TreeSet<Integer> s = new TreeSet<>();
            for (int t = 0; t < things.size(); t++) {
                if (!by.contains(t) && open(t, by)) {
                    s.add(t);
                }
            }
            return s;
        }

        /** One THING at a time, none of the barred ones. */
        TreeSet<Integer> reach(Set<Integer> from, Set<Integer> never) {
            TreeSet<Integer> s = new TreeSet<>(from);
            while (true) {
                TreeSet<Integer> next = may(s);
                next.removeAll(never);
                if (next.isEmpty()) {
                    return s;
                }
                s.add(next.last());
            }
        }

        TreeSet<Integer> reach(Set<Integer> from) {
            return reach(from, Set.of());
        }

        int may() {
            return bits(may(had));
        }

        int with(int s) {
            return isSet(s) ? bits(may(setOf(s))) : no(-1);
        }

        int reach() {
            return bits(reach(had));
        }

        /** Of all orders that bring the wanted ones, stopping as soon as they do: the best by price. */
        final class Best {
            Part least = null;
            List<Integer> order = null;
            final Set<Integer> wanted;
            final boolean inMean;

            Best(Set<Integer> wanted, boolean inMean) {
                this.wanted = wanted;
                this.inMean = inMean;
                go(had, new ArrayList<>(), Part.of(0, 1));
            }

            void go(Set<Integer> by, List<Integer> way, Part price) {
                if (by.containsAll(wanted)) {
                    // Orders come by THINGS one behind the other, so that an equal one is a later one.
                    if (least == null || price.compareTo(least) < 0) {
                        least = price;
                        order = new ArrayList<>(way);
                    }
                    return;
                }
                for (int t : may(by)) {
                    int minutes = Model.this.go(t, by);
                    way.add(t);
                    go(with(by, t), way, price.plus(inMean ? Part.of(10L * minutes, things.get(t).sure) : Part.of(minutes, 1)));
                    way.remove(way.size() - 1);
                }
            }
        }

        boolean tooMany() {
            return things.size() - had.size() > 5;
        }

        int soonest(int s, int what) {
            if (!isSet(s)) {
                return no(-1);
            }
            if (what != 0 && what != 1) {
                return no(-2);
            }
            if (!reach(had).containsAll(setOf(s))) {
                return -9;
            }
            Best best = tooMany() ? relaxed(s, false) : new Best(setOf(s), false);
            return what == 0 ? (int) best.least.tell(0) : best.order.isEmpty() ? -9 : best.order.get(0);
        }

        long mean(int s, int part) {
            if (!isSet(s)) {
                return noLong(-1);
            }
            if (part != 0 && part != 1) {
                return noLong(-2);
            }
            if (!reach(had).containsAll(setOf(s))) {
                return part;
            }
            return (tooMany() ? relaxed(s, true) : new Best(setOf(s), true)).least.tell(part);
        }

        /** For many THINGS: what is still to come from each set, the fuller sets first. */
        Best relaxed(int wanted, boolean inMean) {
            int n = 1 << things.size();
            Part[] rest = new Part[n];
            List<List<Integer>> orders = new ArrayList<>();
            for (int i = 0; i < n; i++) {
                orders.add(null);
            }
            for (int s = n - 1; s >= 0; s--) {
                if ((s & wanted) == wanted) {
                    rest[s] = Part.of(0, 1);
                    orders.set(s, List.of());
                    continue;
                }
                TreeSet<Integer> by = setOf(s);
                for (int t : may(by)) {
                    Part after = rest[s | 1 << t];
                    if (after == null) {
                        continue;
                    }
                    int minutes = go(t, by);
                    Part price = (inMean ? Part.of(10L * minutes, things.get(t).sure) : Part.of(minutes, 1)).plus(after);
                    BigInteger g = price.above.gcd(price.below);
                    price = new Part(price.above.divide(g), price.below.divide(g));
                    if (rest[s] == null || price.compareTo(rest[s]) < 0) {
                        rest[s] = price;
                        List<Integer> way = new ArrayList<>(List.of(t));
                        way.addAll(orders.get(s | 1 << t));
                        orders.set(s, way);
                    }
                }
            }
            Best best = new Best(Set.of(), inMean);
            best.least = rest[bits(had)];
            best.order = orders.get(bits(had));
            return best;
        }

        long surely(int part) {
            if (part != 0 && part != 1) {
                return noLong(-2);
            }
            BigInteger above = BigInteger.ONE;
            BigInteger below = BigInteger.ONE;
            for (int t : reach(had)) {
                if (!had.contains(t)) {
                    above = above.multiply(BigInteger.valueOf(things.get(t).sure));
                    below = below.multiply(BigInteger.TEN);
                }
            }
            return new Part(above, below).tell(part);
        }

        TreeSet<Integer> barred() {
            TreeSet<Integer> s = all();
            s.removeAll(reach(had));
            return s;
        }

        int ringed() {
            TreeSet<Integer> s = new TreeSet<>();
            for (int a : barred()) {
                for (int b : barred()) {
                    if (a != b && reach(with(had, a)).contains(b) && reach(with(had, b)).contains(a)) {
                        s.add(a);
                    }
                }
            }
            return bits(s);
        }

        int cost(Set<Integer> s) {
            int sum = 0;
            for (int t : s) {
                sum += things.get(t).cost;
            }
            return sum;
        }

        int beg(int what) {
            if (what != 0 && what != 1) {
                return no(-2);
            }
            List<Integer> sets = new ArrayList<>();
            for (int s = 0; s < 1 << things.size(); s++) {
                TreeSet<Integer> more = new TreeSet<>(had);
                more.addAll(setOf(s));
                if (reach(more).size() == things.size()) {
                    sets.add(s);
                }
            }
            sets.sort(Comparator.<Integer>comparingInt(s -> cost(setOf(s))).thenComparingInt(s -> s));
            return what == 0 ? cost(setOf(sets.get(0))) : sets.get(0);
        }

        int nails() {
            List<Integer> sets = new ArrayList<>();
            for (int s = 0; s < 1 << things.size(); s++) {
                if (reach(setOf(s)).size() == things.size()) {
                    sets.add(s);
                }
            }
            sets.sort(Comparator.<Integer>comparingInt(Integer::bitCount).thenComparingInt(s -> s));
            return sets.get(0);
        }

        int spare() {
            int best = -9;
            for (int t = things.size() - 1; t >= 0; t--) {
                if (!had.contains(t) && (best < 0 || reach(with(had, t)).size() >= reach(with(had, best)).size())) {
                    best = t;
                }
            }
            return best;
        }

        int does(int t) {
            if (!is(t)) {
                return no(-1);
            }
            TreeSet<Integer> from = new TreeSet<>(had);
            from.remove(t);
            TreeSet<Integer> lost = reach(had);
            lost.removeAll(had);
            lost.removeAll(reach(from, Set.of(t)));
            return bits(lost);
        }

        List<List<Integer>> orders(Set<Integer> to) {
            List<List<Integer>> found = new ArrayList<>();
            orders(had, to, new ArrayList<>(), found);
            return found;
        }

        void orders(Set<Integer> by, Set<Integer> to, List<Integer> way, List<List<Integer>> found) {
            if (by.size() == to.size()) {
                found.add(new ArrayList<>(way));
            }
            for (int t : may(by)) {
                if (to.contains(t)) {
                    way.add(t);
                    orders(with(by, t), to, way, found);
                    way.remove(way.size() - 1);
                }
            }
        }

        int ways(int s) {
            if (!isSet(s)) {
                return no(-1);
            }
            if (!setOf(s).containsAll(had)) {
                return no(-3);
            }
            if (setOf(s).size() - had.size() > 5) {
                return manyWays(s, bits(had));
            }
            return orders(setOf(s)).size();
        }

        /** For many THINGS: by the last one that came. */
        int manyWays(int s, int from) {
            if (s == from) {
                return 1;
            }
            int sum = 0;
            for (int t : setOf(s & ~from)) {
                if (may(setOf(s & ~(1 << t))).contains(t)) {
                    sum += manyWays(s & ~(1 << t), from);
                }
            }
            return sum;
        }

        int must(int s) {
            if (!isSet(s)) {
                return no(-1);
            }
            TreeSet<Integer> set = setOf(s);
            if (!set.containsAll(had)) {
                return no(-3);
            }
            TreeSet<Integer> needed = new TreeSet<>();
            for (int t : set) {
                TreeSet<Integer> never = all();
                never.removeAll(set);
                never.add(t);
                if (!had.contains(t) && reach(had, never).size() < set.size() - 1) {
                    needed.add(t);
                }
            }
            return bits(needed);
        }

        int halfway(int s, int k) {
            if (!isSet(s)) {
                return no(-1);
            }
            TreeSet<Integer> set = setOf(s);
            if (!set.containsAll(had)) {
                return no(-3);
            }
            if (k < 0) {
                return no(-4);
            }
            if (k > set.size() - had.size()) {
                return no(-6);
            }
            TreeSet<Integer> inAll = new TreeSet<>(set);
            boolean some = false;
            if (set.size() - had.size() > 5) {
                return manyHalfway(s, k);
            }
            for (List<Integer> way : orders(set)) {
                TreeSet<Integer> by = new TreeSet<>(had);
                by.addAll(way.subList(0, k));
                inAll.retainAll(by);
                some = true;
            }
            return some ? bits(inAll) : -9;
        }

        int manyHalfway(int s, int k) {
            int inAll = s;
            boolean some = false;
            for (int mid = 0; mid <= s; mid++) {
                boolean between = (mid & ~s) == 0 && (bits(had) & ~mid) == 0 && Integer.bitCount(mid) == had.size() + k;
                if (between && canGo(bits(had), mid) && canGo(mid, s)) {
                    inAll &= mid;
                    some = true;
                }
            }
            return some ? inAll : -9;
        }

        boolean canGo(int from, int to) {
            TreeSet<Integer> never = all();
            never.removeAll(setOf(to));
            return bits(reach(setOf(from), never)) == to;
        }

        long drawer(int n, int m, int part) {
            if (n < 1 || m < 0) {
                return noLong(-4);
            }
            if (n > 30 || m > n) {
                return noLong(-6);
            }
            if (part != 0 && part != 1) {
                return noLong(-2);
            }
            Part mean = Part.of(0, 1);
            for (int place = 1; place <= n - m; place++) {
                mean = mean.plus(Part.of(place, n - m));
            }
            return n == m ? 1 : mean.tell(part);
        }

        List<Integer> taken(int kind, Set<Integer> from) {
            List<Integer> order = new ArrayList<>();
            TreeSet<Integer> by = new TreeSet<>(from);
            while (!may(by).isEmpty()) {
                TreeSet<Integer> now = new TreeSet<>(by);
                Comparator<Integer> better = Comparator.comparingInt((Integer t) -> {
                    switch (kind) {
                        case 1: return go(t, now);
                        case 2: return 10 - things.get(t).sure;
                        case 3: return 10 - may(with(now, t)).size();
                        case 4: return things.get(t).sure;
                        case 5: return things.get(t).cost;
                        default: return t;
                    }
                }).thenComparingInt(t -> t);
                int t = may(by).stream().min(better).get();
                order.add(t);
                by.add(t);
            }
            return order;
        }

        int seeker(int kind, int k) {
            if (kind < 0 || kind > 5) {
                return no(-2);
            }
            if (k < 0) {
                return no(-4);
            }
            List<Integer> order = taken(kind, had);
            return k < order.size() ? order.get(k) : -9;
        }

        int seeks(int kind) {
            if (kind < 0 || kind > 5) {
                return no(-2);
            }
            int sum = 0;
            TreeSet<Integer> by = new TreeSet<>(had);
            for (int t : taken(kind, had)) {
                sum += go(t, by);
                by.add(t);
            }
            return sum;
        }

        int row(int v) {
            if (v < 0) {
                return no(-4);
            }
            if (v > 9 || told.size() == 12) {
                return no(-6);
            }
            told.add(v);
            return told.size();
        }

        int judge() {
            TreeSet<Integer> by = new TreeSet<>(had);
            int answer = -9;
            for (int t : told) {
                if (!may(by).contains(t)) {
                    answer = t;
                    break;
                }
                by.add(t);
            }
            told.clear();
            return answer;
        }

        int lots(int kind, int z) {
            if (kind < 0 || kind > 5) {
                return no(-2);
            }
            TreeSet<Integer> by = new TreeSet<>(had);
            BigInteger seed = BigInteger.valueOf(z);
            int sum = 0;
            for (int goes = 0; goes < 60 && !may(by).isEmpty(); goes++) {
                int t = taken(kind, by).get(0);
                sum += go(t, by);
                seed = seed.multiply(BigInteger.valueOf(1664525)).add(BigInteger.valueOf(1013904223));
                int draw = seed.mod(BigInteger.TWO.pow(31)).shiftRight(8).mod(BigInteger.TEN).intValue();
                if (draw < things.get(t).sure) {
                    by.add(t);
                }
            }
            return sum;
        }

        int image() {
            thenThings = copy(things);
            thenHad = new TreeSet<>(had);
            thenMinute = minute;
            return minute;
        }

        int on() {
            if (thenThings == null) {
                return no(-3);
            }
            things = copy(thenThings);
            had = new TreeSet<>(thenHad);
            minute = thenMinute;
            return minute;
        }

        int count(int what) {
            switch (what) {
                case 0: return things.size();
                case 1: return had.size();
                case 2: return minute;
                case 3: return barred().size();
                case 4: return cost(all());
                case 5: return told.size();
                case 6: return letters.length();
                default: return what > 10 && what < 17 ? refused[what - 10] : -9;
            }
        }
    }
}
