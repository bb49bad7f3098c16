import java.lang.reflect.Method;
import java.nio.charset.StandardCharsets;
import java.nio.file.Files;
import java.nio.file.Path;
import java.util.regex.Matcher;
import java.util.regex.Pattern;

/** For each promise of ../shared/DOC.md: ordinary calls, the edges that it names, and wrong calls. */
public final class PromiseTest {
    private static final long NO = 4000000000000000000L;
    private static final int LEAST = Integer.MIN_VALUE;
    private static final int MOST = Integer.MAX_VALUE;

    /** Like the house of the issue: a LIT behind 0, a BOTH, a FELT, a WIDE, a PAIR, and one behind all that. */
    private static final String THINGS = "tt5,10;tl9,5;tb3,8;tf7,1;tw4,9;tp6,3;tt30,7;";
    private static final String NEEDS = "n10;n20;n21;n23;a43;a40;n54;n61;n62;a65;c69;c05;";

    private static final String TEN = "tt1,1;tt1,1;tt1,1;tt1,1;tt1,1;tt1,1;tt1,1;tt1,1;tt1,1;tt1,1;";

    private static int wrong = 0;
    private static int promise = 0;

    private static void due(String what, long got, long want) {
        if (got != want) {
            wrong++;
            System.out.println("promise " + promise + ": " + what + " answered " + got + ", due is " + want);
        }
    }

    private static int tell(WithoutThem x, String text) {
        for (int i = 0; i < text.length(); i++) {
            x.letter(text.charAt(i));
        }
        return x.house();
    }

    /** A house of one text or more, each without a FAULT. */
    private static WithoutThem house(String... texts) {
        WithoutThem x = new WithoutThem();
        for (String text : texts) {
            if (tell(x, text) < 1) {
                due("the text " + text, 0, 1);
            }
        }
        return x;
    }

    private static WithoutThem twelve() {
        return house(THINGS, NEEDS);
    }

    private static void refusals(WithoutThem x, int nobody, int other, int state, int below, int room) {
        int[] due = {nobody, other, state, below, 0, room};
        for (int i = 0; i < due.length; i++) {
            due("count(" + (11 + i) + ")", x.count(11 + i), due[i]);
        }
    }

    public static void main(String[] args) throws Exception {
        fresh();
        letters();
        texts();
        faultsOfKindOne();
        faultsOfKindTwo();
        things();
        needs();
        hands();
        takes();
        mays();
        withs();
        reaches();
        soonests();
        means();
        surelies();
        ringeds();
        begs();
        nails();
        spares();
        doeses();
        ways();
        musts();
        halfways();
        drawers();
        seekers();
        seeks();
        rows();
        judges();
        lots();
        images();
        ons();
        counts();
        readme();
        System.out.println(wrong == 0 ? "all promises hold" : wrong + " answers are not as due");
        if (wrong != 0) {
            System.exit(1);
        }
    }

    private static void fresh() {
        promise = 1;
        WithoutThem x = new WithoutThem();
        for (int i = 0; i < 18; i++) {
            due("count(" + i + ")", x.count(i), i <= 6 || i >= 11 && i <= 16 ? 0 : -9);
        }
        due("may", x.may(), 0);
        due("reach", x.reach(), 0);
        due("spare", x.spare(), -9);
        due("soonest", x.soonest(0, 0), 0);
        due("soonest", x.soonest(0, 1), -9);
        due("ways", x.ways(0), 1);
        due("halfway", x.halfway(0, 0), 0);
        due("on", x.on(), -3);
        WithoutThem y = house("tt1,1;h0;");
        due("another", new WithoutThem().count(0), 0);
        due("this", y.count(0), 1);
    }

    private static void letters() {
        promise = 2;
        WithoutThem x = new WithoutThem();
        due("letter(0)", x.letter(0), 1);
        due("letter(255)", x.letter(255), 2);
        due("letter(-1)", x.letter(-1), -4);
        due("letter(least)", x.letter(LEAST), -4);
        due("letter(256)", x.letter(256), -6);
        due("letter(most)", x.letter(MOST), -6);
        for (int i = 3; i <= 96; i++) {
            due("letter", x.letter('t'), i);
        }
        due("the 97th", x.letter('t'), -6);
        due("below goes first", x.letter(-1), -4);
        due("letters", x.count(6), 96);
        refusals(x, 0, 0, 0, 3, 3);
        due("house", x.house(), -1000);
        due("letters", x.count(6), 0);
        due("letter", x.letter('t'), 1);
    }

    private static void texts() {
        promise = 3;
        WithoutThem x = new WithoutThem();
        due("house", tell(x, THINGS), 7);
        due("house", tell(x, NEEDS), 12);
        due("letters are no more", x.count(6), 0);
        due("THINGS", x.count(0), 7);
        due("KINDS", x.thing(0, 0) + 10 * x.thing(1, 0) + 100 * x.thing(2, 0) + 1000 * x.thing(3, 0)
            + 10000 * x.thing(4, 0) + 100000 * x.thing(5, 0), 543120);
        due("told again it leaves", tell(x, "n10;a43;n01;n01;"), 4);
        due("ANY", x.thing(1, 4), 0);
        due("ALL", x.thing(4, 5), 1);
        due("ANY", x.thing(0, 4), 0);
        due("hand", tell(x, "h0;h1;h0;h6;"), 4);
        due("had", x.thing(0, 7) * 100 + x.thing(1, 7) * 10 + x.thing(6, 7), 11);
        due("cost", tell(x, "c37;c30;"), 2);
        due("cost", x.thing(3, 3), 0);
        due("numbers with 0 ahead", tell(x, "tt01,09;"), 1);
        due("MINUTES", x.thing(7, 1), 1);
        due("SURE", x.thing(7, 2), 9);
        due("edges of numbers", tell(x, "tt30,10;"), 1);
        due("one told just ahead", tell(x, "tt1,1;n90;n09;h9;c99;"), 5);
        StringBuilder full = new StringBuilder("c00;");
        for (int i = 0; i < 30; i++) {
            full.append("h0;");
        }
        due("96 letters but two", tell(x, full.toString()), 31);
        due("hand 30 times", x.thing(0, 7), 0);
        due("96 letters", tell(x, full.substring(3 * 4 + 4) + "c00;c00;c00;c00;"), 30);
        due("MINUTE", x.count(2), 0);
        refusals(x, 0, 0, 0, 0, 0);
    }

    private static void fault(String text, int want) {
        WithoutThem x = house("tt7,7;tt8,8;");
        due("FAULT of " + text, tell(x, text), want);
        due("THINGS behind " + text, x.count(0), 2);
        due("needs behind " + text, x.thing(0, 4) + x.thing(0, 5) + x.thing(1, 4) + x.thing(1, 5), 0);
        due("had behind " + text, x.count(1), 0);
        due("costs behind " + text, x.count(4), 2);
        due("letters behind " + text, x.count(6), 0);
        refusals(x, 0, 0, 0, 0, 0);
        due("a text behind " + text, tell(x, "h0;"), 1);
    }

    private static void faultsOfKindOne() {
        promise = 3;
        fault("", -1000);
        String[] lacking = {"t", "tt", "tt1", "tt12", "tt12,", "tt12,1", "tt12,10", "n", "n0", "n01", "a1", "h", "h0", "c0", "c01"};
        for (String text : lacking) {
            fault(text, -1000 - text.length());
            fault("h0;c05;n01;" + text, -1011 - text.length());
        }
        fault("x", -1000);
        fault("T", -1000);
        fault(";", -1000);
        fault("h0;;", -1003);
        fault(" h0;", -1000);
        fault("tq1,1;", -1001);
        fault("t;", -1001);
        fault("t1,1;", -1001);
        fault("tt,1;", -1002);
        fault("ttx,1;", -1002);
        fault("tt1;", -1003);
        fault("tt1.1;", -1003);
        fault("tt123,1;", -1004);
        fault("tt1,;", -1004);
        fault("tt1,x;", -1004);
        fault("tt1,1,", -1005);
        fault("tt1,101;", -1006);
        fault("n;", -1001);
        fault("n0;", -1002);
        fault("n010;", -1003);
        fault("nx0;", -1001);
        fault("n0/;", -1002);
        fault("n0:;", -1002);
        fault("a0;", -1002);
        fault("ax;", -1001);
        fault("h;", -1001);
        fault("h00;", -1002);
        fault("c0;", -1002);
        fault("cc0;", -1001);
        fault("c010;", -1003);
        fault("tt0,1;x", -1006);
        fault("n99;h0", -1006);
        fault("tt1,1;n0" + (char) 0 + ";", -1008);
        fault("tt1,1;" + (char) 255, -1006);
    }

    private static void faultsOfKindTwo() {
        promise = 3;
        fault("tt0,1;", -2000);
        fault("tt00,1;", -2000);
        fault("tt31,1;", -2000);
        fault("tt99,1;", -2000);
        fault("tt1,0;", -2000);
        fault("tt1,11;", -2000);
        fault("tt1,99;", -2000);
        fault("n00;", -2000);
        fault("a11;", -2000);
        fault("n02;", -2000);
        fault("n20;", -2000);
        fault("a02;", -2000);
        fault("a20;", -2000);
        fault("h2;", -2000);
        fault("c21;", -2000);
        fault("h0;c05;n01;a10;h2;", -2015);
        fault("n02;tt1,1;", -2000);
        fault("tt1,1;n02;n03;", -2010);
        fault("tt1,1;n02;h0;c09;tt31,1;", -2017);
        String five = "tt1,1;tt1,1;tt1,1;tt1,1;";
        fault(five + five + "tt1,1;", -2048);
        fault(five + five + "h9;tt1,1;", -2051);
        WithoutThem x = house(five + five + "tt1,1;tt1,1;");
        due("no room", tell(x, "h9;tt1,1;"), -2003);
        due("had", x.count(1), 0);
    }

    private static void things() {
        promise = 4;
        WithoutThem x = twelve();
        long[][] want = {
            {0, 5, 10, 5, 0, 0, 5, 0}, {2, 9, 5, 1, 1, 0, 9, 0}, {1, 3, 8, 1, 11, 0, 3, 0}, {3, 7, 1, 1, 0, 0, 7, 0},
            {4, 4, 9, 1, 0, 9, 4, 0}, {5, 6, 3, 1, 16, 0, 12, 0}, {0, 30, 7, 9, 6, 32, 30, 0}};
        for (int t = 0; t < want.length; t++) {
            for (int what = 0; what < 8; what++) {
                due("thing(" + t + ", " + what + ")", x.thing(t, what), want[t][what]);
            }
        }
        x.hand(0);
        due("LIT with 0", x.thing(1, 6), 5);
        due("PAIR with 0", x.thing(5, 6), 6);
        due("WIDE with one", x.thing(4, 6), 5);
        due("a THING with 0", x.thing(0, 6), 5);
        due("0 is had", x.thing(0, 7), 1);
        x.hand(1);
        due("PAIR with 0 and 1", x.thing(5, 6), 3);
        due("LIT that is had", x.thing(1, 6), 5);
        x.hand(4);
        due("WIDE that is had", x.thing(4, 6), 7);
        due("FELT", x.thing(3, 6), 7);
        due("BOTH", x.thing(2, 6), 3);
        x.hand(0);
        due("PAIR with 1", x.thing(5, 6), 6);
        due("LIT without 0", x.thing(1, 6), 9);
        tell(x, "tp7,1;h0;");
        due("an odd PAIR with 0 and 1", x.thing(7, 6), 4);
        x.hand(1);
        due("an odd PAIR with 0", x.thing(7, 6), 8);
        WithoutThem y = house("tl5,1;h0;");
        due("a LIT 0 that is had", y.thing(0, 6), 3);
        refusals(x, 0, 0, 0, 0, 0);
        due("thing(-1, 0)", x.thing(-1, 0), -1);
        due("thing(8, 0)", x.thing(8, 0), -1);
        due("thing(least, 9)", x.thing(LEAST, 9), -1);
        due("thing(most, -1)", x.thing(MOST, -1), -1);
        due("thing(0, 8)", x.thing(0, 8), -2);
        due("thing(0, -1)", x.thing(0, -1), -2);
        refusals(x, 4, 2, 0, 0, 0);
        due("no THING", new WithoutThem().thing(0, 0), -1);
    }

    private static void needs() {
        promise = 5;
        WithoutThem x = house("tt1,1;tt1,1;tt1,1;");
        due("into ANY", x.need(0, 1, 0), 1);
        due("into ANY", x.need(0, 2, 0), 1);
        due("into ALL", x.need(0, 2, 1), 1);
        due("ANY", x.thing(0, 4), 6);
        due("ALL", x.thing(0, 5), 4);
        due("the other's ANY", x.thing(1, 4), 0);
        due("leaves ANY", x.need(0, 1, 0), 0);
        due("leaves ALL", x.need(0, 2, 1), 0);
        due("ANY", x.thing(0, 4), 4);
        due("ALL", x.thing(0, 5), 0);
        due("told by letters too", tell(x, "n02;"), 1);
        due("ANY", x.thing(0, 4), 0);
        due("twice", x.need(1, 1, 0), -1);
        due("no such", x.need(3, 0, 0), -1);
        due("no such other", x.need(0, 3, 0), -1);
        due("below", x.need(-1, 0, 0), -1);
        due("other below", x.need(0, -1, 5), -1);
        due("what 2", x.need(0, 1, 2), -2);
        due("what -1", x.need(0, 1, -1), -2);
        due("nothing changed", x.thing(0, 4) + x.thing(0, 5) + x.thing(1, 4) + x.thing(1, 5), 0);
        refusals(x, 5, 2, 0, 0, 0);
    }

    private static void hands() {
        promise = 6;
        WithoutThem x = twelve();
        due("in", x.hand(6), 1);
        due("in", x.hand(0), 1);
        due("had", x.count(1), 2);
        due("out", x.hand(6), 0);
        due("had", x.count(1), 1);
        due("is had", x.thing(0, 7), 1);
        x.take(1);
        due("MINUTE", x.count(2), 5);
        due("out", x.hand(1), 0);
        due("MINUTE stays", x.count(2), 5);
        due("hand(7)", x.hand(7), -1);
        due("hand(-1)", x.hand(-1), -1);
        due("hand(most)", x.hand(MOST), -1);
        refusals(x, 3, 0, 0, 0, 0);
    }

    private static void takes() {
        promise = 7;
        WithoutThem x = twelve();
        due("may not", x.take(1), -3);
        due("take 3", x.take(3), 7);
        due("take 0", x.take(0), 12);
        due("is had", x.take(0), -3);
        due("WIDE by two had", x.take(4), 18);
        due("LIT with 0", x.take(1), 23);
        due("PAIR with 0 and 1", x.take(5), 26);
        due("take 6", x.take(6), 56);
        due("had", x.count(1), 6);
        due("take(7)", x.take(7), -1);
        due("take(-1)", x.take(-1), -1);
        refusals(x, 2, 0, 2, 0, 0);
        WithoutThem y = house("tt30,1;tt9,1;tt1,1;tp30,1;");
        for (int i = 0; i < 166; i++) {
            due("take", y.take(3), 60 * (i + 1));
            y.hand(3);
        }
        due("MINUTE", y.count(2), 9960);
        due("take", y.take(0), 9990);
        y.hand(0);
        due("room", y.take(0), -6);
        due("nothing changed", y.count(2) * 10 + y.count(1), 99900);
        due("the last", y.take(1), 9999);
        due("no more room", y.take(2), -6);
        due("it may not, and no room", y.take(1), -3);
        refusals(y, 0, 0, 1, 0, 2);
    }

    private static int mayOf(String text, int set) {
        return house("tt1,1;tt1,1;tt1,1;tt1,1;" + text).with(set) >> 4;
    }

    private static void mays() {
        promise = 8;
        WithoutThem x = twelve();
        due("may", x.may(), 9);
        x.hand(0);
        due("may", x.may(), 10);
        x.hand(3);
        due("may", x.may(), 2 + 4 + 16);
        x.hand(4);
        due("may", x.may(), 2 + 4 + 32);
        for (int t = 0; t < 7; t++) {
            if (x.thing(t, 7) == 0) {
                x.hand(t);
            }
        }
        due("all are had", x.may(), 0);
        for (String kind : new String[] {"t", "l", "p"}) {
            String one = "t" + kind + "1,1;";
            due(kind + " without needs", mayOf(one, 0), 1);
            due(kind + " ANY none", mayOf(one + "n40;n41;", 4), 0);
            due(kind + " ANY one", mayOf(one + "n40;n41;", 2), 1);
            due(kind + " ALL one", mayOf(one + "a40;a41;", 2), 0);
            due(kind + " ALL both", mayOf(one + "a40;a41;", 3), 1);
            due(kind + " ANY alone", mayOf(one + "n40;n41;a42;", 1), 0);
            due(kind + " ALL alone", mayOf(one + "n40;n41;a42;", 4), 0);
            due(kind + " ANY and ALL", mayOf(one + "n40;n41;a42;", 5), 1);
        }
        for (String kind : new String[] {"b", "w"}) {
            String one = "t" + kind + "1,1;";
            due(kind + " without needs", mayOf(one, 0), 1);
            due(kind + " ANY of one, none", mayOf(one + "n40;", 2), 0);
            due(kind + " ANY of one", mayOf(one + "n40;", 1), 1);
            due(kind + " one of two", mayOf(one + "n40;n41;", 5), 0);
            due(kind + " two of two", mayOf(one + "n40;n41;", 3), 1);
            due(kind + " one of three", mayOf(one + "n40;n41;n42;", 4), 0);
            due(kind + " two of three", mayOf(one + "n40;n41;n42;", 6), 1);
            due(kind + " ANY without ALL", mayOf(one + "n40;n41;a42;", 3), 0);
            due(kind + " ANY of none, ALL", mayOf(one + "a42;", 4), 1);
            due(kind + " all of it", mayOf(one + "n40;n41;a42;", 7), 1);
        }
        String felt = "tf1,1;";
        due("f without needs", mayOf(felt, 0), 1);
        due("f empty ANY", mayOf(felt + "a40;", 0), 1);
        due("f empty ALL", mayOf(felt + "n40;", 0), 1);
        due("f none", mayOf(felt + "n40;n41;a42;a43;", 4), 0);
        due("f one of ANY", mayOf(felt + "n40;n41;a42;a43;", 2), 1);
        due("f all of ALL", mayOf(felt + "n40;n41;a42;a43;", 12), 1);
        due("had ones leave", mayOf(felt, 16), 0);
    }

    private static void withs() {
        promise = 9;
        WithoutThem x = twelve();
        x.hand(6);
        due("with(0)", x.with(0), 9);
        due("with(1)", x.with(1), 10);
        due("with(8)", x.with(8), 1);
        due("with(9)", x.with(9), 2 + 4 + 16);
        due("with(all)", x.with(127), 0);
        due("HAND is as it was", x.count(1), 1);
        due("with(128)", x.with(128), -1);
        due("with(129)", x.with(129), -1);
        due("with(-1)", x.with(-1), -1);
        due("with(least)", x.with(LEAST), -1);
        due("with(most)", x.with(MOST), -1);
        refusals(x, 5, 0, 0, 0, 0);
    }

    private static void reaches() {
        promise = 10;
        WithoutThem x = twelve();
        due("reach", x.reach(), 127);
        x.need(4, 6, 1);
        due("4, 5 and 6 go round", x.reach(), 15);
        due("BARRED", x.count(3), 3);
        x.hand(4);
        due("one of them is had", x.reach(), 127);
        due("BARRED", x.count(3), 0);
        x.need(0, 6, 1);
        x.hand(4);
        due("3 alone, and 2 by ANY of two? no", x.reach(), 8);
        x.hand(2);
        due("HAND is of it", x.reach(), 12);
        WithoutThem y = house("tt1,1;tt1,1;tt1,1;tt1,1;tt1,1;tt1,1;tt1,1;tt1,1;tt1,1;tt1,1;n01;n12;n23;n34;n45;n56;n67;");
        due("reach", y.reach(), 128 + 256 + 512 + 127);
        tell(y, "n78;n89;");
        due("ten, one behind the other", y.reach(), 1023);
        y.need(9, 0, 0);
        due("all go round", y.reach(), 0);
    }

    private static void soonests() {
        promise = 11;
        WithoutThem x = twelve();
        due("none need be taken", x.soonest(0, 0), 0);
        due("none need be taken", x.soonest(0, 1), -9);
        // 2 comes by 0 and 1 (5, 5, 3) or by 0 and 3 (5, 7, 3); 5 by 0, 3, 4 (5, 7, 6) and then 6.
        int[] minutes = {5, 10, 13, 7, 18, 24};
        int[] first = {0, 0, 0, 3, 0, 0};
        for (int t = 0; t < 6; t++) {
            due("soonest " + t, x.soonest(1 << t, 0), minutes[t]);
            due("first of " + t, x.soonest(1 << t, 1), first[t]);
        }
        due("two", x.soonest(10, 0), 17);
        due("first of two", x.soonest(10, 1), 0);
        x.hand(3);
        due("4 with 3 had", x.soonest(16, 0), 11);
        due("had already", x.soonest(8, 0), 0);
        due("had already", x.soonest(8, 1), -9);
        x.need(0, 6, 1);
        due("can not", x.soonest(16, 0), -9);
        due("can not", x.soonest(16, 1), -9);
        due("one can, one can not", x.soonest(24, 0), -9);
        WithoutThem y = house("tt5,1;tt2,1;tt3,1;tt2,1;n01;n02;n03;");
        due("by the fewest", y.soonest(1, 0), 7);
        due("the first of equals", y.soonest(1, 1), 1);
        WithoutThem z = house("tt5,1;tt9,1;tt3,1;tt2,1;n01;n02;n03;");
        due("by the fewest", z.soonest(1, 0), 7);
        due("the first", z.soonest(1, 1), 3);
        WithoutThem w = house("tt9,1;tw1,1;tt1,1;");
        due("WIDE goes first", w.soonest(7, 0), 11);
        due("WIDE goes first", w.soonest(7, 1), 1);
        due("WIDE alone", w.soonest(2, 1), 1);
        due("without WIDE", w.soonest(5, 1), 0);
        // 0 makes the LIT one cheaper by more than it costs.
        WithoutThem v = house("tt2,1;tl9,1;");
        due("with 0 first", v.soonest(2, 0), 7);
        due("with 0 first", v.soonest(2, 1), 0);
        WithoutThem u = house("tt5,1;tl9,1;");
        due("without 0", u.soonest(2, 0), 9);
        due("without 0", u.soonest(2, 1), 1);
        // As soon either way: the first of the orders goes by 0.
        WithoutThem e = house("tt4,1;tl9,1;");
        due("either way", e.soonest(2, 0), 9);
        due("either way", e.soonest(2, 1), 0);
        WithoutThem d = house("tt1,1;tt1,1;tt1,1;n02;");
        due("2 1 0, 2 0 1 and 1 2 0 are alike", d.soonest(3, 0), 3);
        due("the first of them goes by 1", d.soonest(3, 1), 1);
        due("bits of none", x.soonest(128, 0), -1);
        due("bits of none", x.soonest(-1, 2), -1);
        due("what", x.soonest(1, 2), -2);
        due("what", x.soonest(1, -1), -2);
        refusals(x, 2, 2, 0, 0, 0);
    }

    private static void meanDue(WithoutThem x, int set, long above, long below) {
        due("mean(" + set + ") above", x.mean(set, 0), above);
        due("mean(" + set + ") below", x.mean(set, 1), below);
    }

    private static void means() {
        promise = 12;
        WithoutThem x = twelve();
        meanDue(x, 0, 0, 1);
        meanDue(x, 1, 5, 1);
        meanDue(x, 2, 15, 1);
        meanDue(x, 4, 75, 4);
        meanDue(x, 8, 70, 1);
        meanDue(x, 16, 245, 3);
        x.hand(3);
        meanDue(x, 8, 0, 1);
        meanDue(x, 4, 35, 4);
        x.need(0, 6, 1);
        meanDue(x, 16, 0, 1);
        WithoutThem y = house("tt1,9;tt1,8;tt1,7;tt1,6;");
        // 10 by 9, 10 by 8, 10 by 7 and 10 by 6: 2750 by 504.
        meanDue(y, 15, 1375, 252);
        // Sure goes: 3 minutes; in the mean the dearer but surer one is better.
        WithoutThem z = house("tt1,10;tt3,3;tt4,10;n01;n02;");
        due("soonest", z.soonest(1, 1), 1);
        meanDue(z, 1, 5, 1);
        due("bits of none", x.mean(128, 0), NO + 1);
        due("bits of none", x.mean(-1, 2), NO + 1);
        due("part", x.mean(1, 2), NO + 2);
        due("part", x.mean(1, -1), NO + 2);
        refusals(x, 2, 2, 0, 0, 0);
    }

    private static void surelies() {
        promise = 13;
        WithoutThem x = twelve();
        due("above", x.surely(0), 189);
        due("below", x.surely(1), 25000);
        x.hand(3);
        due("above", x.surely(0), 189);
        due("below", x.surely(1), 2500);
        x.need(4, 6, 1);
        due("of REACH alone", x.surely(0), 2);
        due("of REACH alone", x.surely(1), 5);
        WithoutThem y = house(TEN);
        due("above", y.surely(0), 1);
        due("below", y.surely(1), 10000000000L);
        for (int t = 0; t < 10; t++) {
            y.hand(t);
        }
        due("all are had", y.surely(0), 1);
        due("all are had", y.surely(1), 1);
        due("part", y.surely(2), NO + 2);
        due("part", y.surely(-1), NO + 2);
        refusals(y, 0, 2, 0, 0, 0);
    }

    private static void ringeds() {
        promise = 14;
        WithoutThem x = house("tt1,1;tt2,2;tt3,3;tb4,4;n01;n12;n20;n30;n31;");
        due("three go round, 3 is behind them", x.ringed(), 7);
        x.hand(1);
        due("none is BARRED", x.ringed(), 0);
        WithoutThem y = house("tt1,1;tt1,1;tt1,1;tt1,1;tt1,1;a01;a10;a23;a32;a42;");
        due("two rings", y.ringed(), 15);
        y.hand(3);
        due("one ring", y.ringed(), 3);
        y.hand(3);
        y.need(3, 0, 1);
        due("2 needs 3, which needs 0, too", y.ringed(), 3);
        due("twelve", twelve().ringed(), 0);
    }

    private static void begs() {
        promise = 15;
        WithoutThem x = house("tt1,1;tt2,2;tt3,3;tb4,4;n01;n12;n20;n30;n31;c05;c14;c24;");
        due("COSTS", x.beg(0), 4);
        due("of two, the least bits", x.beg(1), 2);
        tell(x, "c22;");
        due("COSTS", x.beg(0), 2);
        due("the set", x.beg(1), 4);
        tell(x, "c12;");
        due("the least bits", x.beg(1), 2);
        tell(x, "c20;");
        due("for nothing", x.beg(0), 0);
        due("the set", x.beg(1), 4);
        x.hand(0);
        due("none is BARRED", x.beg(0), 0);
        due("none is BARRED", x.beg(1), 0);
        WithoutThem y = house("tt1,1;tt1,1;tt1,1;tt1,1;tt1,1;a01;a10;a23;a32;n40;a42;c09;c18;c29;c39;");
        due("two rings", y.beg(0), 17);
        due("two rings", y.beg(1), 6);
        y.hand(1);
        due("COSTS", y.beg(0), 9);
        due("the set", y.beg(1), 4);
        // Two cheap ones for a dear one; two of 2 make the least bits of a sum 4, too.
        WithoutThem z = house("tt1,1;tt1,1;tt1,1;tt1,1;a01;a02;a03;a10;a20;a30;c05;c12;c22;c31;");
        due("COSTS", z.beg(0), 5);
        due("the least bits of equals", z.beg(1), 1);
        tell(z, "c06;");
        due("COSTS", z.beg(0), 5);
        due("the set", z.beg(1), 14);
        WithoutThem w = house("tt1,1;tt1,1;tt1,1;a12;a21;c00;c10;c20;");
        due("all for nothing", w.beg(0), 0);
        due("the least bits of those", w.beg(1), 2);
        due("what", y.beg(2), -2);
        due("what", y.beg(-1), -2);
        refusals(y, 0, 2, 0, 0, 0);
    }

    private static void nails() {
        promise = 16;
        WithoutThem x = house("tt1,1;tt2,2;tt3,3;tb4,4;n01;n12;n20;n30;n31;c09;");
        due("one", x.nails(), 1);
        x.hand(1);
        due("HAND is no help", x.nails(), 1);
        due("none", twelve().nails(), 0);
        WithoutThem y = house("tt1,1;tt1,1;tt1,1;tt1,1;tt1,1;a01;a10;a23;a32;n40;a42;");
        due("two rings", y.nails(), 5);
        WithoutThem z = house("tt1,1;tt1,1;tt1,1;tt1,1;a01;a02;a03;a10;a20;a30;");
        due("one is fewer than three", z.nails(), 1);
        WithoutThem v = house("tt1,1;tt1,1;tt1,1;tt1,1;a31;a32;a30;a03;a13;a23;");
        due("though its bits are more", v.nails(), 8);
        WithoutThem w = house("tt1,1;tt1,1;a01;a10;tt1,1;tt1,1;a23;a32;tt1,1;tt1,1;a45;a54;tt1,1;tt1,1;a67;a76;",
            "tt1,1;tt1,1;a89;a98;");
        due("five rings", w.nails(), 1 + 4 + 16 + 64 + 256);
    }

    private static void spares() {
        promise = 17;
        WithoutThem x = twelve();
        due("all come: the first", x.spare(), 0);
        x.hand(0);
        due("all come: the first not had", x.spare(), 1);
        WithoutThem y = house("tt1,1;tt1,1;tt1,1;tt1,1;tt1,1;a01;a10;a23;a32;a43;");
        due("2 brings 3 and 4", y.spare(), 2);
        y.hand(3);
        due("0 brings 1", y.spare(), 0);
        y.hand(0);
        due("that one counts", y.spare(), 1);
        for (int t = 0; t < 5; t++) {
            if (y.thing(t, 7) == 0) {
                y.hand(t);
            }
        }
        due("all are had", y.spare(), -9);
        WithoutThem z = house("tt1,1;tt1,1;tt1,1;a12;a21;");
        due("0 comes besides, 1 brings 2", z.spare(), 1);
    }

    private static void doeses() {
        promise = 18;
        WithoutThem x = twelve();
        int[] want = {119, 2, 4, 120, 112, 96, 64};
        for (int t = 0; t < 7; t++) {
            due("does(" + t + ")", x.does(t), want[t]);
        }
        x.hand(4);
        due("4 is had: the others of its", x.does(4), 96);
        due("0 with 4 had", x.does(0), 1 + 2 + 4 + 64);
        x.hand(5);
        due("5 is had", x.does(5), 64);
        due("5 is had, 4 does nothing", x.does(4), 0);
        x.hand(4);
        x.hand(5);
        x.need(4, 6, 1);
        due("BARRED", x.does(5), 0);
        due("does(7)", x.does(7), -1);
        due("does(-1)", x.does(-1), -1);
        refusals(x, 2, 0, 0, 0, 0);
    }

    private static void ways() {
        promise = 19;
        WithoutThem x = twelve();
        due("none", x.ways(0), 1);
        due("0 and 3", x.ways(9), 2);
        due("0, 1, 3", x.ways(11), 3);
        due("1 without 0", x.ways(2), 0);
        due("0, 3, 4", x.ways(25), 2);
        x.hand(0);
        due("to HAND", x.ways(1), 1);
        due("1 and 3", x.ways(11), 2);
        due("1, 2, 3", x.ways(15), 4);
        due("it does not hold HAND", x.ways(8), -3);
        due("not even none", x.ways(0), -3);
        due("bits of none", x.ways(129), -1);
        due("bits of none, without HAND", x.ways(128), -1);
        due("bits of none", x.ways(-1), -1);
        refusals(x, 3, 0, 2, 0, 0);
        WithoutThem y = house(TEN);
        due("ten", y.ways(1023), 3628800);
        due("by itself alone", house("tt1,1;tt1,1;tt1,1;n10;n12;").ways(6), 1);
    }

    private static void musts() {
        promise = 20;
        WithoutThem x = twelve();
        due("none", x.must(0), 0);
        due("0 for 1", x.must(3), 1);
        due("0 and 3, each by itself", x.must(9), 0);
        due("2 by two of 0, 1, 3", x.must(15), 1);
        due("of all", x.must(127), 1 + 8 + 16 + 32);
        due("2 by 0 and 3 alone", x.must(13), 9);
        due("one that can not", x.must(2), 0);
        due("two that can not", x.must(6), 6);
        x.hand(0);
        due("those of HAND are left out", x.must(127), 8 + 16 + 32);
        due("HAND itself", x.must(1), 0);
        due("it does not hold HAND", x.must(2), -3);
        due("bits of none", x.must(128), -1);
        due("bits of none", x.must(-2), -1);
        refusals(x, 2, 0, 1, 0, 0);
    }

    private static void halfways() {
        promise = 21;
        WithoutThem x = twelve();
        due("none", x.halfway(0, 0), 0);
        due("behind none", x.halfway(127, 0), 0);
        due("0 or 3", x.halfway(9, 1), 0);
        due("both", x.halfway(9, 2), 9);
        due("0 and (1 or 3)", x.halfway(15, 1), 0);
        due("0 with 1, 2 or 3", x.halfway(15, 2), 1);
        due("0 and two of three", x.halfway(15, 3), 1);
        due("all", x.halfway(15, 4), 15);
        due("0 first", x.halfway(3, 1), 1);
        due("no ways", x.halfway(2, 0), -9);
        due("no ways", x.halfway(2, 1), -9);
        due("above how many come", x.halfway(2, 2), -6);
        x.hand(3);
        due("HAND among them", x.halfway(15, 0), 8);
        due("HAND among them", x.halfway(15, 1), 9);
        due("HAND among them", x.halfway(25, 1), 9);
        due("above how many come", x.halfway(15, 4), -6);
        due("to HAND", x.halfway(8, 0), 8);
        due("above how many come", x.halfway(8, 1), -6);
        due("below", x.halfway(8, -1), -4);
        due("without HAND", x.halfway(1, -1), -3);
        due("bits of none", x.halfway(128, -1), -1);
        due("most", x.halfway(8, MOST), -6);
        due("least", x.halfway(8, LEAST), -4);
        refusals(x, 1, 0, 1, 2, 4);
    }

    private static void drawers() {
        promise = 22;
        WithoutThem x = new WithoutThem();
        long[][] want = {{1, 0, 1, 1}, {1, 1, 1, 1}, {2, 0, 3, 2}, {2, 1, 1, 1}, {3, 0, 2, 1}, {30, 0, 31, 2}, {30, 30, 1, 1},
            {30, 29, 1, 1}, {30, 1, 15, 1}, {7, 3, 5, 2}};
        for (long[] w : want) {
            due("drawer(" + w[0] + ", " + w[1] + ") above", x.drawer((int) w[0], (int) w[1], 0), w[2]);
            due("drawer(" + w[0] + ", " + w[1] + ") below", x.drawer((int) w[0], (int) w[1], 1), w[3]);
        }
        refusals(x, 0, 0, 0, 0, 0);
        due("n below", x.drawer(0, 0, 0), NO + 4);
        due("n below goes first", x.drawer(0, 1, 2), NO + 4);
        due("m below", x.drawer(3, -1, 0), NO + 4);
        due("m below goes ahead of n above", x.drawer(31, -1, 0), NO + 4);
        due("n above", x.drawer(31, 0, 0), NO + 6);
        due("m above n", x.drawer(3, 4, 2), NO + 6);
        due("part", x.drawer(3, 1, 2), NO + 2);
        due("part", x.drawer(3, 1, -1), NO + 2);
        refusals(x, 0, 2, 0, 4, 2);
    }

    private static void orderDue(WithoutThem x, int kind, int... order) {
        for (int k = 0; k < order.length; k++) {
            due("seeker(" + kind + ", " + k + ")", x.seeker(kind, k), order[k]);
        }
        due("seeker(" + kind + ") no more", x.seeker(kind, order.length), -9);
        due("seeker(" + kind + ", most)", x.seeker(kind, MOST), -9);
    }

    private static void seekers() {
        promise = 23;
        WithoutThem x = house("tt5,6;tt3,4;tt4,9;tt2,4;tt4,1;tt1,9;n41;n51;a53;c02;c14;c23;c32;c40;c50;");
        orderDue(x, 0, 0, 1, 2, 3, 4, 5);
        orderDue(x, 1, 3, 1, 5, 2, 4, 0);
        orderDue(x, 2, 2, 0, 1, 3, 5, 4);
        orderDue(x, 3, 1, 3, 0, 2, 4, 5);
        orderDue(x, 4, 1, 4, 3, 0, 2, 5);
        orderDue(x, 5, 0, 3, 2, 1, 4, 5);
        x.hand(3);
        orderDue(x, 0, 0, 1, 2, 4, 5);
        orderDue(x, 1, 1, 5, 2, 4, 0);
        due("HAND is as it was", x.count(1), 1);
        WithoutThem y = house("tt4,1;tl6,1;tt5,1;tp4,1;");
        orderDue(y, 1, 0, 1, 3, 2);
        WithoutThem z = house("tt1,1;tt1,1;tt1,1;n12;n21;");
        orderDue(z, 0, 0);
        orderDue(house(TEN), 1, 0, 1, 2, 3, 4, 5, 6, 7, 8, 9);
        due("kind", x.seeker(6, -1), -2);
        due("kind", x.seeker(-1, 0), -2);
        due("k", x.seeker(0, -1), -4);
        due("k", x.seeker(5, LEAST), -4);
        refusals(x, 0, 2, 0, 2, 0);
    }

    private static void seeks() {
        promise = 24;
        WithoutThem x = twelve();
        due("SEEKER", x.seeks(0), 5 + 5 + 3 + 7 + 8 + 3 + 30);
        due("QUICK", x.seeks(1), 5 + 5 + 3 + 7 + 8 + 3 + 30);
        due("GREEDY", x.seeks(5), 7 + 5 + 5 + 3 + 8 + 3 + 30);
        due("LOST", x.seeks(4), 7 + 5 + 5 + 3 + 8 + 3 + 30);
        x.take(3);
        due("MINUTE is not of it", x.seeks(0), 5 + 5 + 3 + 8 + 3 + 30);
        due("MINUTE", x.count(2), 7);
        x.need(6, 0, 0);
        x.need(1, 6, 1);
        // Now 0 2 4 5, and 6 by 2, then 1.
        due("as long as it can", x.seeks(0), 5 + 3 + 7 + 6 + 30 + 5);
        x.need(0, 1, 1);
        due("none", x.seeks(2), 0);
        due("ten", house(TEN).seeks(3), 10);
        due("kind", x.seeks(6), -2);
        due("kind", x.seeks(-1), -2);
        refusals(x, 0, 2, 0, 0, 0);
        WithoutThem w = house("tw1,1;tt5,9;tp2,5;");
        due("SEEKER", w.seeks(0), 1 + 5 + 1);
        due("SAFE", w.seeks(2), 5 + 2 + 3);
    }

    private static void rows() {
        promise = 25;
        WithoutThem x = new WithoutThem();
        due("row(-1)", x.row(-1), -4);
        due("row(10)", x.row(10), -6);
        due("row(least)", x.row(LEAST), -4);
        due("row(most)", x.row(MOST), -6);
        due("none", x.count(5), 0);
        for (int i = 0; i < 12; i++) {
            due("row", x.row(i % 10), i + 1);
        }
        due("the 13th", x.row(0), -6);
        due("below goes first", x.row(-1), -4);
        due("in the ROW", x.count(5), 12);
        refusals(x, 0, 0, 0, 3, 3);
    }

    private static int judged(WithoutThem x, int... row) {
        for (int v : row) {
            x.row(v);
        }
        return x.judge();
    }

    private static void judges() {
        promise = 26;
        WithoutThem x = twelve();
        due("an empty ROW", x.judge(), -9);
        due("as they could", judged(x, 3, 0, 2, 4, 1, 5, 6), -9);
        due("the ROW has none then", x.count(5), 0);
        due("1 ahead of 0", judged(x, 3, 1, 0), 1);
        due("the ROW has none then", x.count(5), 0);
        due("2 by one alone", judged(x, 0, 2, 1, 2), 2);
        due("twice", judged(x, 0, 3, 0), 0);
        due("no such", judged(x, 0, 7), 7);
        x.hand(0);
        due("had already", judged(x, 3, 0, 4), 0);
        due("with HAND", judged(x, 1, 2, 3), -9);
        due("HAND is as it was", x.count(1), 1);
        due("without THINGS", judged(new WithoutThem(), 9, 0), 9);
        due("twelve in it", judged(x, 1, 2, 3, 4, 5, 6, 6, 5, 4, 3, 2, 1), 6);
        refusals(x, 0, 0, 0, 0, 0);
    }

    private static void lots() {
        promise = 27;
        int[] draws = draws(0, 70);
        due("the first DRAW", draws[0], 1013904223 / 256 % 10);
        WithoutThem x = house("tt7,1;");
        int goes = 60;
        for (int i = 59; i >= 0; i--) {
            goes = draws[i] < 1 ? i + 1 : goes;
        }
        due("till it is had", x.lots(0, 0), 7 * goes);
        due("MINUTE", x.count(2) + x.count(1), 0);
        for (int seed : new int[] {1, -1, 7, MOST, LEAST, 20261118}) {
            for (int sure = 1; sure <= 10; sure++) {
                WithoutThem y = house("tt3," + sure + ";tt2,10;");
                due("seed " + seed + " sure " + sure, y.lots(1, seed), evening(seed, sure));
                due("the same again", y.lots(1, seed), evening(seed, sure));
            }
        }
        due("none", new WithoutThem().lots(0, 5), 0);
        due("sure ones", house("tt1,10;tl9,10;tw3,10;").lots(0, 99), 1 + 5 + 5);
        due("by QUICK", house("tt3,10;tl5,10;tw1,10;").lots(1, 99), 1 + 3 + 3);
        WithoutThem z = house(TEN);
        int most = 0;
        for (int seed = 0; seed < 100; seed++) {
            most = Math.max(most, z.lots(0, seed));
        }
        due("60 goes at most", most, 60);
        due("kind", z.lots(6, 1), -2);
        due("kind", z.lots(-1, 1), -2);
        refusals(z, 0, 2, 0, 0, 0);
    }

    private static int[] draws(long seed, int many) {
        int[] d = new int[many];
        long z = seed & 0xffffffffL;
        for (int i = 0; i < many; i++) {
            z = (z * 1664525 + 1013904223) % (1L << 32);
            d[i] = (int) (z % (1L << 31) / 256 % 10);
        }
        return d;
    }

    /** One sure go of 2 MINUTES, then those of 3 till one is had. */
    private static int evening(int seed, int sure) {
        int[] d = draws(seed, 60);
        for (int i = 1; i < 60; i++) {
            if (d[i] < sure) {
                return 2 + 3 * i;
            }
        }
        return 2 + 3 * 59;
    }

    private static void images() {
        promise = 28;
        WithoutThem x = twelve();
        due("image", x.image(), 0);
        x.take(0);
        due("image", x.image(), 5);
        x.take(1);
        due("on", x.on(), 5);
        due("the later one", x.count(1), 1);
        due("without THINGS", new WithoutThem().image(), 0);
        refusals(x, 0, 0, 0, 0, 0);
    }

    private static void ons() {
        promise = 29;
        WithoutThem x = twelve();
        due("there is none", x.on(), -3);
        x.take(3);
        x.row(1);
        x.letter('h');
        x.image();
        x.take(0);
        x.hand(6);
        x.need(0, 1, 0);
        x.need(0, 2, 1);
        x.row(2);
        x.letter('5');
        x.letter(';');
        due("house", x.house(), 1);
        due("house", tell(x, "c39;tw9,9;h5;n70;"), 4);
        x.letter('h');
        x.take(9);
        due("on", x.on(), 7);
        due("THINGS", x.count(0), 7);
        due("had", x.may() * 10 + x.count(1), 11);
        due("MINUTE", x.count(2), 7);
        due("all COSTS", x.count(4), 19);
        due("ANY and ALL", x.thing(0, 4) + x.thing(0, 5), 0);
        due("the ROW stays", x.count(5), 2);
        due("letters stay", x.count(6), 1);
        refusals(x, 1, 0, 1, 0, 0);
        x.hand(1);
        due("on again", x.on(), 7);
        due("had", x.count(1), 1);
        due("a new THING", tell(x, "0;tb8,7;"), 2);
        due("it has no needs", x.thing(7, 4) + x.thing(7, 5), 0);
        due("it is as told", x.thing(7, 0) * 1000 + x.thing(7, 1) * 100 + x.thing(7, 2) * 10 + x.thing(7, 3), 1871);
        due("the IMAGE is as it was", x.on() * 10 + x.count(0), 77);
        WithoutThem y = new WithoutThem();
        y.image();
        tell(y, THINGS);
        due("on to no THINGS", y.on(), 0);
        due("no THINGS", y.count(0), 0);
    }

    private static void counts() {
        promise = 30;
        WithoutThem x = twelve();
        x.take(3);
        x.take(0);
        x.need(4, 6, 1);
        x.row(3);
        x.row(4);
        x.row(5);
        x.letter('a');
        x.letter('b');
        long[] want = {7, 2, 12, 3, 19, 3, 2};
        for (int i = 0; i < want.length; i++) {
            due("count(" + i + ")", x.count(i), want[i]);
        }
        x.hand(9);
        x.hand(9);
        x.beg(7);
        x.on();
        x.letter(-5);
        x.letter(-5);
        x.letter(-5);
        x.row(10);
        x.drawer(99, 0, 0);
        x.surely(9);
        x.mean(-1, 0);
        refusals(x, 3, 2, 1, 3, 2);
        for (int what : new int[] {-1, 7, 8, 9, 10, 17, 18, LEAST, MOST, -11, -16}) {
            due("count(" + what + ")", x.count(what), -9);
        }
        refusals(x, 3, 2, 1, 3, 2);
    }

    /** The example of README.md answers as that page says. Run from the project's root. */
    private static void readme() throws Exception {
        promise = 0;
        String page = Files.readString(Path.of("README.md"), StandardCharsets.UTF_8);
        Matcher text = Pattern.compile("\"([^\"]+)\"\\.toCharArray").matcher(page);
        String letters = text.find() ? text.group(1) : "";
        WithoutThem x = new WithoutThem();
        for (int i = 0; i < letters.length(); i++) {
            x.letter(letters.charAt(i));
        }
        Matcher call = Pattern.compile("x\\.(\\w+)\\(([\\d, ]*)\\); *// (-?\\d+)").matcher(page);
        int calls = 0;
        while (call.find()) {
            calls++;
            due("README: " + call.group(1) + "(" + call.group(2) + ")", answer(x, call.group(1), call.group(2)), Long.parseLong(call.group(3)));
        }
        due("README: calls with answers", calls, 5);
    }

    private static long answer(WithoutThem x, String name, String told) throws Exception {
        String[] numbers = told.isEmpty() ? new String[0] : told.split(", ");
        Object[] with = new Object[numbers.length];
        for (int i = 0; i < with.length; i++) {
            with[i] = Integer.valueOf(numbers[i]);
        }
        for (Method m : WithoutThem.class.getMethods()) {
            if (m.getName().equals(name) && m.getParameterCount() == with.length) {
                return ((Number) m.invoke(x, with)).longValue();
            }
        }
        return NO;
    }
}
