import java.nio.charset.StandardCharsets;
import java.nio.file.Files;
import java.nio.file.Path;

/**
 * The edges: each sentence of ../shared/DOC.md that names one has a test of its own here, under the sentence's
 * own words, which are looked for in the document. Run from the project's root.
 */
public final class EdgeTest {
    private static final long NO = 4000000000000000000L;
    private static final int LEAST = Integer.MIN_VALUE;
    private static final int MOST = Integer.MAX_VALUE;
    private static final int[] FAR = {LEAST, LEAST + 1, -1024, -11, -1, 1024, MOST - 1, MOST};

    private static final String FIVE = "tt1,1;tt1,1;tt1,1;tt1,1;tt1,1;";
    private static final String TEN = FIVE + FIVE;
    /** 0 and 1 need each other; 2 needs 1; 3 needs nothing. */
    private static final String RING = "tt1,1;tt2,2;tt3,3;tt4,4;a01;a10;a21;";

    private static int wrong = 0;
    private static int sentences = 0;
    private static String words = "";
    private static String document = "";

    private static void says(String sentence) {
        words = sentence;
        sentences++;
        if (!document.contains(sentence)) {
            wrong++;
            System.out.println("the document does not say: " + sentence);
        }
    }

    private static void due(String call, long got, long want) {
        if (got != want) {
            wrong++;
            System.out.println("\"" + words + "\": " + call + " answered " + got + ", due is " + want);
        }
    }

    private static int tell(WithoutThem x, String text) {
        for (int i = 0; i < text.length(); i++) {
            x.letter(text.charAt(i));
        }
        return x.house();
    }

    private static WithoutThem house(String... texts) {
        WithoutThem x = new WithoutThem();
        for (String text : texts) {
            if (tell(x, text) < 1) {
                due("the text " + text, 0, 1);
            }
        }
        return x;
    }

    /** All that can be asked of a THING and of the whole, but REFUSALS. */
    private static String state(WithoutThem x) {
        StringBuilder s = new StringBuilder();
        for (int what = 0; what <= 6; what++) {
            s.append(x.count(what)).append(' ');
        }
        for (int thing = 0; thing < x.count(0); thing++) {
            s.append('|');
            for (int what = 0; what <= 7; what++) {
                s.append(x.thing(thing, what)).append(' ');
            }
        }
        return s.append('|').append(x.may()).append(' ').append(x.reach()).toString();
    }

    private static void same(String what, String got, String want) {
        if (!got.equals(want)) {
            wrong++;
            System.out.println("\"" + words + "\": " + what + " is\n  " + got + ", due is\n  " + want);
        }
    }

    private static void refusals(WithoutThem x, int nobody, int other, int state, int below, int room) {
        int[] want = {nobody, other, state, below, 0, room};
        for (int i = 0; i < want.length; i++) {
            due("count(" + (11 + i) + ")", x.count(11 + i), want[i]);
        }
    }

    private static void fraction(String call, long above, long below, long wantAbove, long wantBelow) {
        due(call + " above", above, wantAbove);
        due(call + " below", below, wantBelow);
    }

    private static void mean(WithoutThem x, int set, long above, long below) {
        fraction("mean(" + set + ")", x.mean(set, 0), x.mean(set, 1), above, below);
    }

    private static void soonest(WithoutThem x, int set, int minutes, int first) {
        due("soonest(" + set + ", 0)", x.soonest(set, 0), minutes);
        due("soonest(" + set + ", 1)", x.soonest(set, 1), first);
    }

    public static void main(String[] args) throws Exception {
        document = Files.readString(Path.of("../shared/DOC.md"), StandardCharsets.UTF_8).replaceAll("\\s+", " ");
        calls();
        things();
        hand();
        letters();
        statements();
        turns();
        faults();
        faultsOfStatements();
        kinds();
        goes();
        may();
        take();
        reach();
        soonest();
        mean();
        surely();
        ringed();
        unrefused();
        beg();
        nails();
        spare();
        does();
        ways();
        must();
        halfway();
        drawer();
        seekers();
        seekersStop();
        rows();
        judged();
        lots();
        draws();
        image();
        fractions();
        refusedNumbers();
        refusedFirst();
        refusedNothing();
        counts();
        System.out.println(wrong == 0 ? "all edges hold, of " + sentences + " sentences" : wrong + " answers are not as due");
        if (wrong != 0) {
            System.exit(1);
        }
    }

    private static void calls() {
        says("An object is used for at most 512 calls after it has been made");
        WithoutThem x = new WithoutThem();
        for (int i = 1; i < 512; i++) {
            due("call " + i, x.take(0), -1);
        }
        due("the 512th", x.count(11), 511);
        WithoutThem y = house(TEN.substring(0, 54));
        for (int i = 56; i < 512; i++) {
            due("hand behind " + i + " calls", y.hand(8), i % 2 == 0 ? 1 : 0);
        }
        due("the 512th", y.count(1), 0);

        says("`WithoutThem()`: No THINGS.");
        WithoutThem z = new WithoutThem();
        same("a new one", state(z), "0 0 0 0 0 0 0 |0 0");
        refusals(z, 0, 0, 0, 0, 0);
        due("an image", z.on(), -3);
        house(TEN, "h0;h1;");
        same("it behind another one", state(z), "0 0 0 0 0 0 0 |0 0");
    }

    private static void things() {
        says("THINGS 0 .. 9 as they come (10 at most)");
        WithoutThem x = house(TEN);
        due("the tenth", x.thing(9, 1), 1);
        due("an eleventh", x.thing(10, 1), -1);
        due("one more", tell(x, "tt2,2;"), -2000);
        due("THINGS", x.count(0), 10);
        WithoutThem y = house(TEN.substring(0, 54), "tw30,10;");
        due("the tenth is the last told", y.thing(9, 0), 4);
        WithoutThem z = house(TEN.substring(0, 54));
        due("two more, room for one", tell(z, "tt1,1;tt1,1;"), -2006);
        due("THINGS", z.count(0), 9);
        due("one more", tell(z, "tt1,1;"), 1);

        says("MINUTES (1 .. 30)");
        int[] minutes = {0, 1, 2, 29, 30, 31, 99};
        for (int m : minutes) {
            WithoutThem t = new WithoutThem();
            boolean fits = m >= 1 && m <= 30;
            due("MINUTES " + m, tell(t, "tt" + m + ",5;"), fits ? 1 : -2000);
            due("told", fits ? t.thing(0, 1) : t.count(0), fits ? m : 0);
        }

        says("SURE (1 .. 10 tenths)");
        int[] sures = {0, 1, 2, 9, 10, 11, 99};
        for (int s : sures) {
            WithoutThem t = new WithoutThem();
            boolean fits = s >= 1 && s <= 10;
            due("SURE " + s, tell(t, "tt5," + s + ";"), fits ? 1 : -2000);
            due("told", fits ? t.thing(0, 2) : t.count(0), fits ? s : 0);
        }

        says("COST (0 .. 9: 1 at first)");
        WithoutThem c = house("tt5,5;");
        due("at first", c.thing(0, 3), 1);
        for (int cost = 9; cost >= 0; cost--) {
            due("told", tell(c, "c0" + cost + ";"), 1);
            due("COST", c.thing(0, 3), cost);
        }
        due("a new one", tell(c, "tt5,5;"), 1);
        due("at first", c.thing(1, 3), 1);

        says("ANY, ALL (sets of other THINGS; none at first)");
        WithoutThem n = house("tt5,5;tt5,5;");
        due("at first", n.thing(0, 4) + n.thing(0, 5) + n.thing(1, 4) + n.thing(1, 5), 0);
        due("itself", n.need(0, 0, 0), -1);
        due("itself", n.need(1, 1, 1), -1);
        due("at last", n.thing(0, 4) + n.thing(0, 5) + n.thing(1, 4) + n.thing(1, 5), 0);
        WithoutThem f = house(TEN);
        for (int other = 0; other < 9; other++) {
            due("need(9, " + other + ", 0)", f.need(9, other, 0), 1);
            due("need(9, " + other + ", 1)", f.need(9, other, 1), 1);
        }
        due("all others in ANY", f.thing(9, 4), 511);
        due("all others in ALL", f.thing(9, 5), 511);
    }

    private static void hand() {
        says("HAND: what is had (bits; none at first)");
        WithoutThem x = house(TEN);
        due("had at first", x.count(1), 0);
        for (int t = 0; t < 10; t++) {
            due("at first", x.thing(t, 7), 0);
            due("in", x.hand(t), 1);
            due("had", x.thing(t, 7), 1);
        }
        due("all are had", x.count(1), 10);
        due("REACH of all", x.reach(), 1023);
        for (int t = 9; t >= 0; t--) {
            due("out", x.hand(t), 0);
        }
        due("none is had", x.count(1), 0);

        says("MINUTE (0 at first)");
        due("MINUTE", new WithoutThem().count(2), 0);
        due("MINUTE of a HOUSE", house("tt5,5;h0;").count(2), 0);

        says("It comes into HAND, or out of it (MINUTE stays): 1, 0. -1.");
        WithoutThem y = house("tt5,5;tt6,6;a01;");
        due("though it MAY not be had", y.hand(0), 1);
        due("MINUTE", y.count(2), 0);
        due("take", y.take(1), 6);
        due("out", y.hand(1), 0);
        due("MINUTE stays", y.count(2), 6);
        for (int far : FAR) {
            due("hand(" + far + ")", y.hand(far), -1);
        }
        due("hand(2)", y.hand(2), -1);
        due("had", y.count(1), 1);
        refusals(y, 9, 0, 0, 0, 0);
    }

    private static void letters() {
        says("A HOUSE is told in letters, one by one (96 at most)");
        WithoutThem x = house("tt1,1;");
        for (int i = 1; i <= 96; i++) {
            due("letter " + i, x.letter("h0;".charAt((i - 1) % 3)), i);
        }
        due("the 97th", x.letter('h'), -6);
        due("letters", x.count(6), 96);
        due("a HOUSE of 96", x.house(), 32);
        due("letters", x.count(6), 0);
        due("HAND, turned 32 times", x.count(1), 0);
        due("the first of the next", x.letter('h'), 1);

        says("A letter (0 .. 255) comes: how many there are. -4; -6 (255; 96, too).");
        WithoutThem y = new WithoutThem();
        due("letter(0)", y.letter(0), 1);
        due("letter(255)", y.letter(255), 2);
        due("letter(-1)", y.letter(-1), -4);
        due("letter(256)", y.letter(256), -6);
        due("letter(least)", y.letter(LEAST), -4);
        due("letter(most)", y.letter(MOST), -6);
        due("letters", y.count(6), 2);
        for (int i = 3; i <= 96; i++) {
            due("letter(" + i + ")", y.letter(i), i);
        }
        due("full", y.letter(0), -6);
        due("full", y.letter(255), -6);
        due("full and above: one refusal", y.letter(256), -6);
        due("full and below", y.letter(-1), -4);
        due("letters", y.count(6), 96);
        refusals(y, 0, 0, 0, 3, 5);
        due("255 is a letter, but no HOUSE goes on with 0", y.house(), -1000);
    }

    private static void text(String text, int want) {
        due("house of " + text, tell(house("tt7,7;tt8,8;"), text), want);
    }

    private static void statements() {
        says("STATEMENTS, each with \";\" behind");
        text("h0;h1", -1005);
        text("h0h1;", -1002);
        text("h0;;h1;", -1003);
        text("h0;h1;", 2);
        text("h0; ", -1003);
        text("h0:", -1002);

        says("\"t\" a letter of a KIND, MINUTES (1 or 2 digits) \",\" SURE (1 or 2 digits): a THING more");
        String kinds = "tblfwp";
        for (int c = 0; c < 256; c++) {
            int kind = kinds.indexOf((char) c);
            WithoutThem x = new WithoutThem();
            due("KIND " + c, tell(x, "t" + (char) c + "1,1;"), kind >= 0 ? 1 : -1001);
            due("its KIND", kind >= 0 ? x.thing(0, 0) : x.count(0), Math.max(kind, 0));
        }
        text("tt,1;", -1002);
        text("tt1,1;", 1);
        text("tt12,1;", 1);
        text("tt123,1;", -1004);
        text("tt1,;", -1004);
        text("tt1,10;", 1);
        text("tt1,100;", -1006);
        text("tt12,10;", 1);
        text("tt12,100;", -1007);
        text("tt1;", -1003);
        text("tt12;", -1004);
        text("tt-1,1;", -1002);
        text("tt+1,1;", -1002);
        text("tt1,-1;", -1004);

        says("Numbers may begin with 0.");
        WithoutThem x = house("tt01,01;tt09,09;tt1,1;");
        due("MINUTES 01", x.thing(0, 1), 1);
        due("SURE 01", x.thing(0, 2), 1);
        due("MINUTES 09", x.thing(1, 1), 9);
        due("SURE 09", x.thing(1, 2), 9);
        text("tt00,1;", -2000);
        text("tt1,00;", -2000);
        text("tt001,1;", -1004);
        text("tt1,010;", -1006);

        says("At least one STATEMENT.");
        due("no letter", new WithoutThem().house(), -1000);
        text("", -1000);
        text(";", -1000);
        text("h0;", 1);

        says("The letters become a HOUSE, and are no more (with a FAULT neither): how many STATEMENTS; "
            + "the FAULT (nothing is counted).");
        WithoutThem y = house("tt1,1;");
        String[] texts = {"", "h0", "h1;", "h0;x", "x"};
        int[] want = {-1000, -1002, -2000, -1003, -1000};
        for (int i = 0; i < texts.length; i++) {
            due("house of " + texts[i], tell(y, texts[i]), want[i]);
            due("letters", y.count(6), 0);
            due("house again", y.house(), -1000);
        }
        refusals(y, 0, 0, 0, 0, 0);
        due("had", y.count(1), 0);
        due("another", tell(y, "h0;"), 1);
        due("letters", y.count(6), 0);
        due("nothing twice", y.house(), -1000);
        due("had", y.count(1), 1);
    }

    private static void turns() {
        says("the other comes into its ANY (told again: leaves it)");
        WithoutThem x = house("tt1,1;tt2,2;tt3,3;");
        int[] any = {0, 2, 0, 4, 6, 2, 0};
        String[] told = {"c01;", "n01;", "n01;", "n02;", "n01;", "n02;", "n01;"};
        for (int i = 0; i < told.length; i++) {
            due(told[i], tell(x, told[i]), 1);
            due("ANY behind " + told[i], x.thing(0, 4), any[i]);
        }
        due("twice in one text", tell(x, "n01;n01;n02;n01;"), 4);
        due("ANY", x.thing(0, 4), 6);
        due("ALL", x.thing(0, 5), 0);
        due("ANY of the other", x.thing(1, 4), 0);

        says("\"a\" likewise its ALL");
        WithoutThem y = house("tt1,1;tt2,2;tt3,3;a01;");
        due("ALL", y.thing(0, 5), 2);
        due("again", tell(y, "a01;"), 1);
        due("ALL", y.thing(0, 5), 0);
        due("thrice", tell(y, "a01;a01;a01;n02;"), 4);
        due("ALL", y.thing(0, 5), 2);
        due("ANY", y.thing(0, 4), 4);
        due("ALL of the other", y.thing(1, 5), 0);

        says("\"h\" a THING (a digit): into HAND, or out of it");
        WithoutThem z = house("tt1,1;tt2,2;h1;");
        due("in", z.thing(1, 7), 1);
        due("again", tell(z, "h1;h0;"), 2);
        due("out", z.thing(1, 7), 0);
        due("in", z.thing(0, 7), 1);
        due("though it MAY not be had", tell(z, "a10;h0;h1;"), 3);
        due("had", z.count(1), 1);
        text("h00;", -1002);
        text("h;", -1001);

        says("\"n\" a THING, another (a digit each)");
        text("n0;", -1002);
        text("n01;", 1);
        text("n010;", -1003);
        text("n0,1;", -1002);
        text("a1;", -1002);
        text("a10;", 1);
        text("a100;", -1003);
        due("9 and 8", tell(house(TEN), "n98;a89;"), 2);

        says("\"c\" a THING, COST (a digit each)");
        text("c0;", -1002);
        text("c00;", 1);
        text("c19;", 1);
        text("c010;", -1003);
        text("c;", -1001);
        text("c0,1;", -1002);

        says("The other comes into ANY (what 0), ALL (1), or leaves it: 1, 0. -1 either (one twice, too); -2.");
        WithoutThem n = house("tt1,1;tt2,2;");
        due("into ANY", n.need(0, 1, 0), 1);
        due("into ALL", n.need(0, 1, 1), 1);
        due("out of ANY", n.need(0, 1, 0), 0);
        due("ALL stays", n.thing(0, 5), 2);
        due("out of ALL", n.need(0, 1, 1), 0);
        due("none is left", n.thing(0, 4) + n.thing(0, 5), 0);
        for (int far : FAR) {
            due("thing " + far, n.need(far, 0, 0), -1);
            due("other " + far, n.need(0, far, 1), -1);
            due("both " + far, n.need(far, far, 0), -1);
        }
        due("thing 2", n.need(2, 0, 0), -1);
        due("other 2", n.need(0, 2, 0), -1);
        due("twice", n.need(0, 0, 0), -1);
        due("twice, and a wrong what", n.need(1, 1, 2), -1);
        due("what 2", n.need(0, 1, 2), -2);
        due("what -1", n.need(0, 1, -1), -2);
        refusals(n, 28, 2, 0, 0, 0);
    }

    private static void faults() {
        says("the place of the first letter with which no HOUSE can go on (the end, if something lacks): -1000 less the place");
        text("x", -1000);
        text("h", -1001);
        String whole = "tt30,10;h0;n01;a01;c09;";
        for (int cut = 0; cut < whole.length(); cut++) {
            String start = whole.substring(0, cut);
            text(start, start.endsWith(";") ? start.replaceAll("[^;]", "").length() : -1000 - cut);
            // No HOUSE goes on with a blank, wherever it comes.
            text(whole.substring(0, cut) + " " + whole.substring(cut), -1000 - cut);
        }
        StringBuilder full = new StringBuilder();
        for (int i = 0; i < 31; i++) {
            full.append("h0;");
        }
        text(full + "h0", -1095);
        text(full + "h0x", -1095);
        text(full + "n01", -1096);
        text(full + "h0;", 32);
        text(full + "", 31);

        says("else kind 2 the place of the first letter of the first STATEMENT that, behind all ahead of it in the text, "
            + "is not as it must be");
        text("h2;", -2000);
        text(full + "h2;", -2093);
        text(full + "h2", -1095);
        text("h2;h0", -1005);
        text("h2;n02;tt0,1;", -2000);
        text("h0;n02;h2;", -2003);
        text("h2;tt1,1;", -2000);
        text("tt1,1;h2;h3;", -2009);
        text("tt1,1;n23;tt1,1;", -2006);
        text("tt1,1;tt1,1;n23;h3;", 4);
    }

    private static void faultsOfStatements() {
        says("a number out of range");
        text("tt0,1;", -2000);
        text("tt31,1;", -2000);
        text("tt1,0;", -2000);
        text("tt1,11;", -2000);
        text("h0;tt30,10;tt31,10;", -2011);

        says("no such THING ahead of it");
        for (String s : new String[] {"n02;", "n20;", "n92;", "a02;", "a20;", "h2;", "c20;", "h9;", "c99;"}) {
            text(s, -2000);
            text("c00;" + s + "tt1,1;", -2004);
        }
        text("tt1,1;n02;n20;a12;a21;h2;c20;", 7);
        due("none at all", tell(new WithoutThem(), "h0;"), -2000);

        says("one twice");
        text("n00;", -2000);
        text("a11;", -2000);
        text("n01;n11;", -2004);
        text("a01;a00;", -2004);
        text("c00;c11;", 2);

        says("no room for more");
        due("the eleventh", tell(house(TEN), "h9;tt1,1;"), -2003);
        due("ten in one text", tell(new WithoutThem(), TEN), 10);
        due("eleven in one text", tell(new WithoutThem(), TEN + "tt1,1;"), -2060);

        says("Without FAULT all of it comes, with one nothing.");
        WithoutThem x = house("tt1,1;tw5,5;n10;h0;");
        x.take(1);
        x.row(3);
        String before = state(x);
        String change = "h0;h1;c09;c18;n10;a10;n01;a01;tb9,9;";
        due("a FAULT of kind 1", tell(x, change + "h2"), -1000 - change.length() - 2);
        same("it all", state(x), before);
        due("a FAULT of kind 2", tell(x, change + "h3;"), -2000 - change.length());
        same("it all", state(x), before);
        due("none", tell(x, change + "h2;"), 10);
        same("it all", state(x), "3 1 6 2 18 1 0 |0 1 1 9 2 2 1 0 |4 5 5 8 0 1 6 0 |1 9 9 1 0 0 9 1 |0 4");
        WithoutThem y = house(TEN.substring(0, 48));
        due("two of three fit", tell(y, "tt1,1;tt1,1;tt1,1;"), -2012);
        due("none came", y.count(0), 8);
        due("a THING behind that", tell(y, "tp3,4;"), 1);
        due("has no needs", y.thing(8, 4) + y.thing(8, 5) + 10 * y.thing(8, 3), 10);
    }

    private static int open(String kind, String needs, int set) {
        return house("tt1,1;tt1,1;tt1,1;tt1,1;t" + kind + "1,1;" + needs).with(set) >> 4;
    }

    private static void kinds() {
        String[] plain = {"t", "l", "p"};
        says("with one of ANY at least (none needed, if that is empty) and all of ALL");
        for (String k : plain) {
            due(k + " both empty", open(k, "", 0), 1);
            for (int set = 0; set < 16; set++) {
                due(k + " ANY 0, 1 with " + set, open(k, "n40;n41;", set), (set & 3) != 0 ? 1 : 0);
                due(k + " ALL 0, 1 with " + set, open(k, "a40;a41;", set), (set & 3) == 3 ? 1 : 0);
                due(k + " ANY 0, ALL 0 with " + set, open(k, "n40;a40;", set), set & 1);
                due(k + " ANY 0, 1, ALL 1, 2 with " + set, open(k, "n40;n41;a41;a42;", set), (set & 6) == 6 ? 1 : 0);
                due(k + " ANY 0, 1, ALL 2, 3 with " + set, open(k, "n40;n41;a42;a43;", set), set > 12 ? 1 : 0);
            }
        }

        says("with two of ANY at least (one, if it has but one; none, if none), all of ALL");
        for (String k : new String[] {"b", "w"}) {
            due(k + " both empty", open(k, "", 0), 1);
            for (int set = 0; set < 16; set++) {
                due(k + " ANY 0 with " + set, open(k, "n40;", set), set & 1);
                due(k + " ANY 0, 1 with " + set, open(k, "n40;n41;", set), (set & 3) == 3 ? 1 : 0);
                due(k + " ANY 0, 1, 2 with " + set, open(k, "n40;n41;n42;", set), Integer.bitCount(set & 7) >= 2 ? 1 : 0);
                due(k + " ANY 0 .. 3 with " + set, open(k, "n40;n41;n42;n43;", set), Integer.bitCount(set) >= 2 ? 1 : 0);
                due(k + " ALL 3 with " + set, open(k, "a43;", set), set >> 3);
                due(k + " ANY 0, ALL 3 with " + set, open(k, "n40;a43;", set), set > 8 && set % 2 == 1 ? 1 : 0);
                due(k + " ANY 0, 1, ALL 0 with " + set, open(k, "n40;n41;a40;", set), (set & 3) == 3 ? 1 : 0);
            }
        }

        says("with one of ANY or all of ALL (either will do, also if empty)");
        due("both empty", open("f", "", 0), 1);
        for (int set = 0; set < 16; set++) {
            due("empty ANY with " + set, open("f", "a40;a41;", set), 1);
            due("empty ALL with " + set, open("f", "n40;n41;", set), 1);
            due("ANY 0, 1, ALL 2, 3 with " + set, open("f", "n40;n41;a42;a43;", set), (set & 3) != 0 || set == 12 ? 1 : 0);
            due("ANY 0, ALL 0, 1 with " + set, open("f", "n40;a40;a41;", set), set & 1);
            due("ANY 0, 1, ALL 0 with " + set, open("f", "n40;n41;a40;", set), (set & 3) != 0 ? 1 : 0);
        }
    }

    /** MINUTES of a go of a THING 2 of a KIND, by what of 0 and 1 is had. */
    private static void go(String kind, int minutes, int none, int zero, int one, int both) {
        WithoutThem x = house("tt1,1;tt1,1;t" + kind + minutes + ",1;");
        String what = kind + minutes;
        due(what + " with none", x.thing(2, 6), none);
        x.hand(0);
        due(what + " with 0", x.thing(2, 6), zero);
        x.hand(1);
        due(what + " with 0 and 1", x.thing(2, 6), both);
        x.hand(0);
        due(what + " with 1", x.thing(2, 6), one);
        due(what + " told", x.thing(2, 1), minutes);
    }

    private static void goes() {
        says("half, rounded up, while THING 0 is had");
        go("l", 1, 1, 1, 1, 1);
        go("l", 2, 2, 1, 2, 1);
        go("l", 3, 3, 2, 3, 2);
        go("l", 29, 29, 15, 29, 15);
        go("l", 30, 30, 15, 30, 15);
        due("THING 0 itself, not had", house("tl9,1;").thing(0, 6), 9);
        due("THING 0 itself, had", house("tl9,1;h0;").thing(0, 6), 5);

        says("as a BOTH; 1 more for each THING had");
        go("w", 1, 1, 2, 2, 3);
        go("w", 30, 30, 31, 31, 32);
        WithoutThem x = house(TEN.substring(0, 54) + "tw30,1;");
        due("none is had", x.thing(9, 6), 30);
        for (int t = 0; t < 10; t++) {
            x.hand(t);
            due("had are " + (t + 1), x.thing(9, 6), 31 + t);
        }

        says("as a LIT one, twice that, while THING 1 is not had");
        go("p", 1, 2, 2, 1, 1);
        go("p", 2, 4, 2, 2, 1);
        go("p", 3, 6, 4, 3, 2);
        go("p", 29, 58, 30, 29, 15);
        go("p", 30, 60, 30, 30, 15);
        due("alone", house("tp9,1;").thing(0, 6), 18);
        due("THING 1 itself, had", house("tt1,1;tp9,1;h1;").thing(1, 6), 9);

        says("and all of ALL; MINUTES. b BOTH under THING");
        go("t", 1, 1, 1, 1, 1);
        go("t", 30, 30, 30, 30, 30);
        go("b", 9, 9, 9, 9, 9);
        go("f", 9, 9, 9, 9, 9);

        says("Of a THING: 0 KIND (0 t, 1 b, 2 l, 3 f, 4 w, 5 p), 1 MINUTES told, 2 SURE, 3 COST, 4 ANY (bits), 5 ALL (bits)");
        WithoutThem all = house("tt30,10;tb1,1;tl2,9;tf9,2;tw29,5;tp15,6;", "n01;n05;a04;n50;a51;a52;c00;c59;h0;h1;");
        int[][] told = {{0, 30, 10, 0, 34, 16, 30, 1}, {1, 1, 1, 1, 0, 0, 1, 1}, {2, 2, 9, 1, 0, 0, 1, 0},
            {3, 9, 2, 1, 0, 0, 9, 0}, {4, 29, 5, 1, 0, 0, 31, 0}, {5, 15, 6, 9, 1, 6, 8, 0}};
        for (int t = 0; t < told.length; t++) {
            for (int what = 0; what <= 7; what++) {
                due("thing(" + t + ", " + what + ")", all.thing(t, what), told[t][what]);
            }
        }

        says("6 MINUTES of a go now, 7 1 it is had. -1; -2.");
        WithoutThem y = house("tt1,1;tt1,1;");
        for (int far : FAR) {
            due("thing(" + far + ", 0)", y.thing(far, 0), -1);
            due("thing(" + far + ", 8)", y.thing(far, 8), -1);
        }
        due("thing(2, 0)", y.thing(2, 0), -1);
        due("thing(1, 8)", y.thing(1, 8), -2);
        due("thing(1, -1)", y.thing(1, -1), -2);
        due("thing(1, least)", y.thing(1, LEAST), -2);
        due("thing(1, most)", y.thing(1, MOST), -2);
        due("thing(1, 7)", y.thing(1, 7), 0);
        refusals(y, 17, 4, 0, 0, 0);
    }

    private static void may() {
        says("THINGS not in it (bits) that may be had with it");
        WithoutThem x = house(RING);
        int[] want = {8, 10, 13, 12, 8, 10, 9, 8, 0, 2, 5, 4, 0, 2, 1, 0};
        for (int set = 0; set < 16; set++) {
            due("with(" + set + ")", x.with(set), want[set]);
        }
        due("ten with none", house(TEN).with(0), 1023);
        due("ten with all", house(TEN).with(1023), 0);

        says("MAY by HAND (bits).");
        for (int set = 0; set < 16; set++) {
            for (int t = 0; t < 4; t++) {
                if (x.thing(t, 7) != (set >> t & 1)) {
                    x.hand(t);
                }
            }
            due("may with " + set, x.may(), want[set]);
        }
        due("no THINGS", new WithoutThem().may(), 0);

        says("MAY by a set (bits). -1.");
        due("none of none", new WithoutThem().with(0), 0);
        due("0 of none", new WithoutThem().with(1), -1);
        due("with(16)", x.with(16), -1);
        due("with(31)", x.with(31), -1);
        for (int far : FAR) {
            due("with(" + far + ")", x.with(far), -1);
        }
        WithoutThem y = house(TEN);
        due("with(1023)", y.with(1023), 0);
        due("with(1024)", y.with(1024), -1);
        due("with(least)", y.with(LEAST), -1);
        refusals(x, 10, 0, 0, 0, 0);
    }

    private static void take() {
        says("it is had, MINUTE is more by what a go takes (as it is ahead of it)");
        WithoutThem x = house("tl9,1;tp9,1;tw9,1;");
        due("a LIT 0", x.take(0), 9);
        due("a PAIR 1, with 0", x.take(1), 9 + 10);
        due("a WIDE one, with two", x.take(2), 19 + 11);
        due("had", x.count(1), 3);
        due("MINUTE", x.count(2), 30);

        says("To TAKE: MINUTE. -1; -3 it is had, or may not be had; -6 MINUTE would be above 9999.");
        WithoutThem y = house("tp30,1;tt30,1;tt9,1;tt1,1;tt2,2;a40;");
        for (int far : FAR) {
            due("take(" + far + ")", y.take(far), -1);
        }
        due("take(5)", y.take(5), -1);
        due("may not", y.take(4), -3);
        for (int i = 1; i <= 166; i++) {
            due("take", y.take(0), 60 * i);
            due("out", y.hand(0), 0);
        }
        due("take 1", y.take(1), 9990);
        due("is had", y.take(1), -3);
        due("10050", y.take(0), -6);
        due("it is not had", y.thing(0, 7), 0);
        due("MINUTE", y.count(2), 9990);
        due("9999", y.take(2), 9999);
        due("10000", y.take(3), -6);
        due("it is not had", y.thing(3, 7), 0);
        due("may not, and no room", y.take(4), -3);
        due("is had, and no room", y.take(2), -3);
        refusals(y, 9, 0, 4, 0, 2);
        WithoutThem z = house("tp30,1;tt29,1;tt10,1;");
        for (int i = 1; i <= 166; i++) {
            z.take(0);
            z.hand(0);
        }
        due("9989", z.take(1), 9989);
        due("9999", z.take(2), 9999);
        WithoutThem w = house("tp30,1;tt29,1;tl19,1;tl21,1;tw9,1;");
        for (int i = 1; i <= 166; i++) {
            w.take(0);
            w.hand(0);
        }
        due("9989", w.take(1), 9989);
        due("0 by hand", w.hand(0), 1);
        due("a LIT one takes 11", w.take(3), -6);
        due("a WIDE one takes 11", w.take(4), -6);
        w.image();
        due("a LIT one takes 10", w.take(2), 9999);
        due("on", w.on(), 9989);
        due("1 by hand", w.hand(1), 0);
        due("a WIDE one takes 10", w.take(4), 9999);
        refusals(w, 0, 0, 0, 0, 2);
    }

    private static void reach() {
        says("all (bits) that can be had at all from HAND, one behind the other");
        due("no THINGS", new WithoutThem().reach(), 0);
        WithoutThem x = house(FIVE, FIVE, "n01;n12;n23;n34;n45;n56;n67;n78;n89;");
        due("from 9 on to 0", x.reach(), 1023);
        x.need(9, 8, 0);
        due("8 and 9 need each other", x.reach(), 0);
        x.hand(4);
        due("from 4 on", x.reach(), 31);
        x.hand(0);
        due("HAND is of it", x.reach(), 31);
        x.hand(9);
        due("from 9 on", x.reach(), 1023);
        WithoutThem y = house(RING);
        due("3 alone", y.reach(), 8);
        y.hand(0);
        due("with 0", y.reach(), 15);

        says("BARRED: the others.");
        due("none", y.count(3), 0);
        y.hand(0);
        due("three", y.count(3), 3);
        due("no THINGS", new WithoutThem().count(3), 0);
        WithoutThem z = house(FIVE, FIVE, "n01;n12;n23;n34;n45;n56;n67;n78;n89;n90;");
        due("all ten", z.count(3), 10);
    }

    private static void soonest() {
        says("in which all of a told set can be had (all goes sure), in whatever order; -9 it can not");
        WithoutThem x = house(RING);
        soonest(x, 1, -9, -9);
        soonest(x, 15, -9, -9);
        soonest(x, 9, -9, -9);
        soonest(x, 8, 4, 3);
        x.hand(1);
        soonest(x, 15, 1 + 3 + 4, 0);
        WithoutThem sure = house("tt3,1;tt4,1;n10;");
        soonest(sure, 2, 7, 0);

        says("SOONEST: the fewest MINUTES");
        String wide = "tw30,1;tw30,1;tw30,1;tw30,1;tw30,1;";
        soonest(house(wide, wide), 1023, 345, 0);
        soonest(house("tp30,1;tp30,1;"), 3, 60 + 30, 0);
        soonest(house("tt30,1;tp30,1;"), 2, 60, 0);
        soonest(house("tt29,1;tp30,1;"), 2, 59, 0);
        soonest(house("tt30,1;tp29,1;"), 2, 58, 1);

        says("-9 none need be taken, or it can not");
        soonest(x, 0, 0, -9);
        soonest(x, 2, 0, -9);
        soonest(new WithoutThem(), 0, 0, -9);
        for (int t = 0; t < 4; t += t == 0 ? 2 : 1) {
            x.hand(t);
        }
        soonest(x, 15, 0, -9);

        says("the first THING that is taken in the first of all such orders (by THINGS one behind the other)");
        // 2 by 0 or by 1, each as soon: 0 2 goes ahead of 1 2.
        soonest(house("tt5,1;tt5,1;tt5,1;n20;n21;"), 4, 10, 0);
        // 0 needs 1 or 2: 1 0 goes ahead of 2 0.
        soonest(house("tt5,1;tt5,1;tt5,1;n01;n02;"), 1, 10, 1);
        // 0 needs 1 and 2: 1 2 0 goes ahead of 2 1 0.
        soonest(house("tt5,1;tt5,1;tt5,1;a01;a02;"), 7, 15, 1);
        // 0 needs 2: 1 2 0 goes ahead of 2 0 1.
        soonest(house("tt5,1;tt5,1;tt5,1;a02;"), 3, 15, 1);
        // A WIDE one is cheapest ahead of the others.
        soonest(house("tw5,1;tt5,1;"), 3, 10, 0);
        soonest(house("tt5,1;tw5,1;"), 3, 10, 1);
        // LIT ones want 0 first, if it saves what it takes.
        soonest(house("tt9,1;tl20,1;tl20,1;"), 6, 29, 0);
        soonest(house("tt20,1;tl20,1;tl20,1;"), 6, 40, 0);
        soonest(house("tt21,1;tl20,1;tl20,1;"), 6, 40, 1);
        // A PAIR wants 1 first, or not at all.
        soonest(house("tt30,1;tt5,1;tp6,1;"), 4, 11, 1);
        soonest(house("tt30,1;tt6,1;tp6,1;"), 4, 12, 1);
        soonest(house("tt30,1;tt7,1;tp6,1;"), 4, 12, 2);
        soonest(house(TEN), 1023, 10, 0);
        soonest(house(TEN), 512, 1, 9);

        says("SOONEST: MINUTES (what 0; -9), the first THING (1; -9). -1; -2.");
        WithoutThem y = house(RING);
        due("bits of none", y.soonest(16, 0), -1);
        due("bits of none", y.soonest(31, 1), -1);
        for (int far : FAR) {
            due("soonest(" + far + ", 0)", y.soonest(far, 0), -1);
            due("soonest(" + far + ", 2)", y.soonest(far, 2), -1);
        }
        due("what 2", y.soonest(8, 2), -2);
        due("what -1", y.soonest(1, -1), -2);
        due("what 2", y.soonest(0, MOST), -2);
        refusals(y, 18, 3, 0, 0, 0);
    }

    private static void mean() {
        says("if a go that fails is made again (each THING takes its MINUTES times 10 by SURE then)");
        for (int sure = 1; sure <= 10; sure++) {
            WithoutThem x = house("tt1," + sure + ";tt30," + sure + ";");
            int shared = sure == 10 ? 10 : sure % 5 == 0 ? 5 : sure % 2 == 0 ? 2 : 1;
            mean(x, 1, 10 / shared, sure / shared);
            int more = sure == 9 || sure == 3 || sure == 6 ? shared * 3 : sure == 4 || sure == 8 ? 4 : shared;
            mean(x, 2, 300 / more, sure / more);
        }
        // A WIDE one goes first: 30 times 10, then 1 times 10; behind: 10 and 31 times 10.
        mean(house("tt1,1;tw30,1;"), 3, 310, 1);
        // A LIT one that is not sure: 3 by 10 sure ahead, 5 times 10 by 1 and not 9 times 10.
        mean(house("tt3,10;tl9,1;"), 2, 53, 1);
        mean(house("tp30,1;"), 1, 600, 1);

        says("a fraction in least terms (0 by 1, also if it can not)");
        WithoutThem x = house(RING);
        mean(x, 0, 0, 1);
        mean(x, 1, 0, 1);
        mean(x, 9, 0, 1);
        mean(x, 8, 10, 1);
        x.hand(3);
        mean(x, 8, 0, 1);
        mean(x, 9, 0, 1);
        mean(new WithoutThem(), 0, 0, 1);
        // Ten by nine, eight, seven, six, four: 10 by 9, 5 by 4, 10 by 7, 5 by 3, 5 by 2: 2005 by 252.
        mean(house("tt1,9;tt1,8;tt1,7;tt1,6;tt1,4;"), 31, 2005, 252);
        mean(house(TEN), 1023, 100, 1);

        says("MEAN, part 0 above, 1 below the line. Refused as told: -1; -2.");
        WithoutThem y = house(RING);
        due("bits of none", y.mean(16, 0), NO + 1);
        due("bits of none", y.mean(24, 1), NO + 1);
        for (int far : FAR) {
            due("mean(" + far + ", 0)", y.mean(far, 0), NO + 1);
            due("mean(" + far + ", -1)", y.mean(far, -1), NO + 1);
        }
        due("part 2", y.mean(8, 2), NO + 2);
        due("part -1", y.mean(1, -1), NO + 2);
        due("part", y.mean(0, LEAST), NO + 2);
        refusals(y, 18, 3, 0, 0, 0);
    }

    private static void sure(WithoutThem x, long above, long below) {
        fraction("surely", x.surely(0), x.surely(1), above, below);
    }

    private static void surely() {
        says("how likely all of REACH that is not had comes at the first go each: a fraction");
        sure(new WithoutThem(), 1, 1);
        WithoutThem x = house(RING);
        sure(x, 2, 5);
        x.hand(3);
        sure(x, 1, 1);
        x.hand(0);
        // 1 with 2 and 2 with 3 tenths: 6 by 100.
        sure(x, 3, 50);
        x.hand(1);
        x.hand(2);
        sure(x, 1, 1);
        sure(house(TEN), 1, 10000000000L);
        sure(house("tt1,10;tt1,10;"), 1, 1);
        sure(house("tt1,9;tt1,9;tt1,9;tt1,9;tt1,9;", "tt1,9;tt1,9;tt1,9;tt1,9;tt1,9;"), 3486784401L, 10000000000L);
        sure(house("tt1,5;tt1,5;tt1,4;tt1,2;"), 1, 50);

        says("SURELY. Refused as told: -2.");
        due("part 2", x.surely(2), NO + 2);
        due("part -1", x.surely(-1), NO + 2);
        due("part", x.surely(LEAST), NO + 2);
        due("part", x.surely(MOST), NO + 2);
        refusals(x, 0, 4, 0, 0, 0);
    }

    private static void ringed() {
        says("BARRED THINGS (bits) a of which each has another BARRED one b, so that a, had besides, brings b into REACH, "
            + "and b, had besides, brings a.");
        due("no THINGS", new WithoutThem().ringed(), 0);
        due("none BARRED", house(TEN).ringed(), 0);
        due("0 and 1; 2 is behind them", house(RING).ringed(), 3);
        WithoutThem all = house(FIVE, FIVE, "n01;n12;n23;n34;n45;n56;n67;n78;n89;n90;");
        due("all ten", all.ringed(), 1023);
        all.hand(7);
        due("one is had", all.ringed(), 0);
        // 0 needs both of 1 and 2, each of which needs 0: 0 brings them, neither of them brings 0.
        due("BARRED, not RINGED", house("tb1,1;tt1,1;tt1,1;n01;n02;n10;n20;").ringed(), 0);
        due("BARRED", house("tb1,1;tt1,1;tt1,1;n01;n02;n10;n20;").count(3), 3);
        // 0 needs 1 alone then, 2 is still behind 0.
        due("one of ANY leaves", house("tb1,1;tt1,1;tt1,1;n01;n10;n20;").ringed(), 3);
        WithoutThem two = house(FIVE, "a01;a10;a23;a32;a42;a24;");
        due("0 and 1, and 2, 3, 4: 2 needs 4, too", two.ringed(), 3);
        due("3 and 4 had bring 2", tell(two, "h4;"), 1);
        due("2 and 3 then", two.ringed(), 15);
    }

    /** What tells no refusals of its own tells them never. */
    private static void unrefused() {
        says("REACH (bits).");
        WithoutThem x = house(RING);
        due("reach", x.reach(), 8);
        says("RINGED (bits).");
        due("ringed", x.ringed(), 3);
        says("NAILS (bits).");
        due("nails", x.nails(), 1);
        says("SPARE; -9.");
        due("spare", x.spare(), 0);
        due("all are had", house("tt1,1;h0;").spare(), -9);
        due("no THINGS", new WithoutThem().spare(), -9);
        refusals(x, 0, 0, 0, 0, 0);
    }

    private static void beg(WithoutThem x, int costs, int set) {
        due("beg(0)", x.beg(0), costs);
        due("beg(1)", x.beg(1), set);
    }

    private static void beg() {
        says("the least sum of COSTS of THINGS that, had besides, leave none BARRED");
        beg(new WithoutThem(), 0, 0);
        beg(house(TEN), 0, 0);
        WithoutThem x = house(RING);
        beg(x, 1, 1);
        tell(x, "c09;c18;");
        beg(x, 8, 2);
        tell(x, "c10;c30;");
        beg(x, 0, 2);
        x.hand(1);
        beg(x, 0, 0);
        String five = "a01;a10;a23;a32;a45;a54;a67;a76;a89;a98;";
        String dear = "c09;c19;c29;c39;c49;c59;c69;c79;c89;c99;";
        WithoutThem y = house(TEN, five, dear);
        beg(y, 45, 341);
        tell(y, "c98;c18;");
        beg(y, 43, 2 + 4 + 16 + 64 + 512);
        y.hand(3);
        beg(y, 34, 2 + 16 + 64 + 512);
        // A dear one that brings all, or all the cheap ones that bring it.
        WithoutThem z = house("tt1,1;tt1,1;tt1,1;tt1,1;a01;a02;a03;n10;n20;n30;c03;");
        beg(z, 3, 1);
        tell(z, "c04;");
        beg(z, 3, 14);

        says("of several sets that with the least bits; the set");
        beg(house("tt1,1;tt1,1;tt1,1;n01;n12;n20;"), 1, 1);
        beg(house("tt1,1;tt1,1;tt1,1;n01;n12;n20;c09;"), 1, 2);
        // 0 and 1 for 2 are as dear as 2 for 2: 3 is less than 4.
        beg(house("tt1,1;tt1,1;tt1,1;a02;a12;a20;a21;c22;"), 2, 3);
        beg(house("tt1,1;tt1,1;tt1,1;a02;a12;a20;a21;c21;"), 1, 4);
        beg(house(RING, "c00;c10;c20;c30;"), 0, 1);

        says("BEG: COSTS (what 0), the set (1). -2.");
        WithoutThem w = house(RING);
        due("what 2", w.beg(2), -2);
        due("what -1", w.beg(-1), -2);
        due("what", w.beg(LEAST), -2);
        due("what", w.beg(MOST), -2);
        due("none", new WithoutThem().beg(2), -2);
        refusals(w, 0, 4, 0, 0, 0);
    }

    private static void nails() {
        says("the fewest THINGS (then least bits) that must hang (be had always) so that all can be had from these alone");
        due("no THINGS", new WithoutThem().nails(), 0);
        due("none", house(TEN).nails(), 0);
        WithoutThem x = house(RING);
        due("0 of 0 and 1", x.nails(), 1);
        x.hand(0);
        due("HAND does not count", x.nails(), 1);
        x.hand(0);
        x.hand(1);
        due("HAND does not count", x.nails(), 1);
        // 2 alone brings all; 0 and 1 would, too, with less bits.
        due("one of more bits", house("tt1,1;tt1,1;tt1,1;a02;a12;a20;a21;").nails(), 4);
        due("COSTS do not count", house("tt1,1;tt1,1;tt1,1;a02;a12;a20;a21;c29;c00;c10;").nails(), 4);
        WithoutThem five = house(TEN, "a01;a10;a23;a32;a45;a54;a67;a76;a89;a98;");
        due("one of each two", five.nails(), 341);
        due("9 brings 0, too", tell(five, "a01;n09;"), 2);
        due("then 8 or 9, and three", five.nails(), 4 + 16 + 64 + 256);
        // Each of four needs all others: three of them would bring the fourth.
        due("three of four", house("tt1,1;tt1,1;tt1,1;tt1,1;a01;a02;a03;a10;a12;a13;a20;a21;a23;a30;a31;a32;").nails(), 7);
    }

    private static void spare() {
        says("the THING not had that, had besides, makes REACH greatest (that one counts), of several the first; -9 all are had");
        due("no THINGS", new WithoutThem().spare(), -9);
        WithoutThem one = house("tt1,1;");
        due("one", one.spare(), 0);
        one.hand(0);
        due("it is had", one.spare(), -9);
        WithoutThem x = house(RING);
        due("0 brings 1 and 2, as 1 brings 0 and 2", x.spare(), 0);
        x.hand(0);
        due("all come: the first not had", x.spare(), 1);
        x.hand(1);
        due("all come: the first not had", x.spare(), 2);
        x.hand(2);
        x.hand(3);
        due("all are had", x.spare(), -9);
        // 0 brings none, 1 is itself BARRED and counts; so does 2, and brings 3 besides.
        WithoutThem y = house("tt1,1;tt1,1;tt1,1;tt1,1;a12;a13;a21;a23;a32;a31;");
        due("each of three counts itself", y.spare(), 1);
        y.need(3, 1, 1);
        due("2 brings 3", y.spare(), 2);
        // 4 needs 0 and 3: 2 brings 3, and 4 with it, as 0 is had.
        WithoutThem had = house(FIVE, "a01;a10;a23;a32;a40;a43;");
        due("none is had", had.spare(), 0);
        had.hand(0);
        due("with what is had", had.spare(), 2);
        WithoutThem ten = house(TEN);
        for (int t = 0; t < 9; t++) {
            ten.hand(t);
        }
        due("the last", ten.spare(), 9);
        ten.hand(9);
        due("all ten are had", ten.spare(), -9);
    }

    private static void does() {
        says("THINGS (bits) of REACH, not had, that could not be had, if a told one were not to be had at all (that one, too)");
        WithoutThem x = house(RING);
        due("BARRED", x.does(0), 0);
        due("by itself", x.does(3), 8);
        x.hand(0);
        due("0, had, for 1 and 2", x.does(0), 6);
        due("1 for 2, and itself", x.does(1), 6);
        due("2 for itself", x.does(2), 4);
        x.hand(1);
        due("0, had, for none", x.does(0), 0);
        due("1, had, for 2", x.does(1), 4);
        x.hand(2);
        due("all behind it are had", x.does(1), 0);
        WithoutThem y = house(TEN, "n10;n21;n32;n43;n54;n65;n76;n87;n98;");
        for (int t = 0; t < 10; t++) {
            due("does(" + t + ")", y.does(t), 1023 & -1 << t);
        }
        due("by 0, too", y.need(9, 0, 0), 1);
        due("does(8)", y.does(8), 256);
        due("does(0)", y.does(0), 1023);

        says("DOES (bits). -1.");
        due("does(4)", x.does(4), -1);
        due("does(10)", y.does(10), -1);
        for (int far : FAR) {
            due("does(" + far + ")", x.does(far), -1);
        }
        due("none", new WithoutThem().does(0), -1);
        refusals(x, 9, 0, 0, 0, 0);
    }

    private static void ways() {
        says("from HAND to a told set (that holds HAND): in how many orders THINGS can come till just that is had");
        due("none of none", new WithoutThem().ways(0), 1);
        WithoutThem x = house(RING);
        due("none", x.ways(0), 1);
        due("3", x.ways(8), 1);
        due("BARRED", x.ways(1), 0);
        due("BARRED and not", x.ways(11), 0);
        x.hand(0);
        due("to HAND", x.ways(1), 1);
        due("1 behind 0", x.ways(3), 1);
        due("1, 2 and 3 in it", x.ways(15), 3);
        due("2 not by 1", x.ways(5), 0);
        x.hand(2);
        x.hand(3);
        x.hand(1);
        due("all are had", x.ways(15), 1);
        WithoutThem ten = house(TEN);
        due("ten", ten.ways(1023), 3628800);
        due("nine", ten.ways(1022), 362880);
        due("in one order", house(TEN, "n10;n21;n32;n43;n54;n65;n76;n87;n98;").ways(1023), 1);

        says("WAYS. -1; -3 it does not hold HAND.");
        WithoutThem y = house(RING, "h0;");
        due("none", y.ways(0), -3);
        due("all but 0", y.ways(14), -3);
        due("0 and one that is not", y.ways(17), -1);
        due("one that is not", y.ways(16), -1);
        for (int far : FAR) {
            due("ways(" + far + ")", y.ways(far), -1);
        }
        refusals(y, 10, 0, 2, 0, 0);
    }

    private static void must() {
        says("THINGS (bits) of it, not of HAND, without each of which (never had) not all the others of it can be had by it alone");
        due("none of none", new WithoutThem().must(0), 0);
        WithoutThem x = house(RING);
        due("none", x.must(0), 0);
        due("one that comes", x.must(8), 0);
        due("one that does not", x.must(1), 0);
        due("0, 1, each for the other", x.must(3), 3);
        due("none helps the others", x.must(7), 7);
        due("3 neither", x.must(15), 15);
        due("1 by itself would not come", x.must(10), 8);
        x.hand(0);
        due("1 for 2", x.must(15), 2);
        due("HAND alone", x.must(1), 0);
        due("1 may come", x.must(3), 0);
        due("2 not without 1", x.must(5), 0);
        due("2 and 3, 2 never comes", x.must(13), 8);
        x.hand(1);
        due("HAND is left out", x.must(15), 0);
        WithoutThem chain = house(TEN, "n10;n21;n32;n43;n54;n65;n76;n87;n98;");
        due("all but the last", chain.must(1023), 511);
        due("4 .. 9 by themselves", chain.must(1023 - 15), 1023 - 15);
        // By it alone: 1 would come by 2, but that is not of it.
        due("not by others", house("tt1,1;tt1,1;tt1,1;n10;n12;").must(3), 1);
        due("with the other", house("tt1,1;tt1,1;tt1,1;n10;n12;").must(7), 0);

        says("MUST (bits; those of HAND left out). -1; -3 likewise.");
        due("all but HAND", x.must(12), -3);
        due("none", x.must(0), -3);
        due("HAND and more than all", x.must(19), -1);
        for (int far : FAR) {
            due("must(" + far + ")", x.must(far), -1);
        }
        refusals(x, 9, 0, 2, 0, 0);
    }

    private static void halfway() {
        says("THINGS (bits) that are had in all ways behind k of them");
        due("none of none", new WithoutThem().halfway(0, 0), 0);
        WithoutThem x = house(TEN, "n10;n21;n32;n43;n54;n65;n76;n87;n98;");
        for (int k = 0; k <= 10; k++) {
            due("behind " + k, x.halfway(1023, k), (1 << k) - 1);
        }
        WithoutThem y = house(TEN);
        for (int k = 0; k <= 10; k++) {
            due("behind " + k + " of whichever", y.halfway(1023, k), k == 10 ? 1023 : 0);
        }
        y.hand(9);
        due("HAND among them", y.halfway(1023, 0), 512);
        due("HAND among them", y.halfway(1023, 8), 512);
        due("all", y.halfway(1023, 9), 1023);
        due("to HAND", y.halfway(512, 0), 512);
        // 0 by 1 or 2, 3 by 0: 1 0 .., 2 0 .., 1 2 0 3, 2 1 0 3.
        WithoutThem z = house("tt1,1;tt1,1;tt1,1;tt1,1;n01;n02;n30;");
        due("behind 1", z.halfway(15, 1), 0);
        due("behind 2", z.halfway(15, 2), 0);
        due("behind 3", z.halfway(15, 3), 1);
        due("behind 4", z.halfway(15, 4), 15);
        due("without 2", z.halfway(11, 1), 2);

        says("HALFWAY (bits, HAND among them). -1; -3 likewise; -4; -6 k above how many come; -9 there are no ways.");
        WithoutThem w = house(RING, "h3;");
        due("no ways", w.halfway(15, 0), -9);
        due("no ways", w.halfway(15, 3), -9);
        due("no ways, k above", w.halfway(15, 4), -6);
        due("no ways, k below", w.halfway(15, -1), -4);
        due("to HAND", w.halfway(8, 0), 8);
        due("k above", w.halfway(8, 1), -6);
        due("k above", w.halfway(8, MOST), -6);
        due("k below", w.halfway(8, LEAST), -4);
        due("not HAND, k below", w.halfway(0, -1), -3);
        due("not HAND, k above", w.halfway(0, 9), -3);
        due("bits of none, k below", w.halfway(24, -1), -1);
        for (int far : FAR) {
            due("halfway(" + far + ", 0)", w.halfway(far, 0), -1);
        }
        refusals(w, 9, 0, 2, 2, 3);
    }

    private static void drawer() {
        says("of n things in a drawer (1 .. 30) m are known by feel (0 .. n)");
        WithoutThem x = new WithoutThem();
        for (int n = 1; n <= 30; n++) {
            for (int m = 0; m <= n && n % 7 < 3; m += n > 8 ? 1 + n / 5 : 1) {
                int more = Math.max(n - m, 1) + 1;
                String call = "drawer(" + n + ", " + m + ")";
                fraction(call, x.drawer(n, m, 0), x.drawer(n, m, 1), more % 2 == 0 ? more / 2 : more, more % 2 == 0 ? 1 : 2);
            }
        }
        refusals(x, 0, 0, 0, 0, 0);

        says("(if none is unknown: 1 grope)");
        WithoutThem y = new WithoutThem();
        for (int n = 1; n <= 30; n++) {
            fraction("drawer(" + n + ", all)", y.drawer(n, n, 0), y.drawer(n, n, 1), 1, 1);
            fraction("drawer(" + n + ", all but one)", y.drawer(n, n - 1, 0), y.drawer(n, n - 1, 1), 1, 1);
        }
        fraction("drawer(2, 0)", y.drawer(2, 0, 0), y.drawer(2, 0, 1), 3, 2);
        fraction("drawer(30, 0)", y.drawer(30, 0, 0), y.drawer(30, 0, 1), 31, 2);
        fraction("drawer(30, 1)", y.drawer(30, 1, 0), y.drawer(30, 1, 1), 15, 1);

        says("an unknown one is looked for, each alike likely, the unknown ones groped one behind the other");
        for (int unknown = 1; unknown <= 30; unknown++) {
            long above = y.drawer(30, 30 - unknown, 0) * 2;
            // The sum of 1 .. unknown, by how many they are.
            due("gropes for " + unknown, above * unknown, y.drawer(30, 30 - unknown, 1) * unknown * (unknown + 1));
        }

        says("DRAWER. Refused as told: -4 (n below 1, m below 0); -6 (30; m above n); -2.");
        WithoutThem z = new WithoutThem();
        due("n 0", z.drawer(0, 0, 0), NO + 4);
        due("n least", z.drawer(LEAST, 0, 0), NO + 4);
        due("m -1", z.drawer(30, -1, 0), NO + 4);
        due("m least", z.drawer(1, LEAST, 1), NO + 4);
        due("n 0, m 1, part 2", z.drawer(0, 1, 2), NO + 4);
        due("n 31, m -1", z.drawer(31, -1, 0), NO + 4);
        due("n 31", z.drawer(31, 0, 0), NO + 6);
        due("n 31, m 31", z.drawer(31, 31, 1), NO + 6);
        due("n most", z.drawer(MOST, 0, 0), NO + 6);
        due("m 2 of 1", z.drawer(1, 2, 0), NO + 6);
        due("m 31 of 30", z.drawer(30, 31, 0), NO + 6);
        due("m most", z.drawer(30, MOST, 0), NO + 6);
        due("n 31, part 2", z.drawer(31, 0, 2), NO + 6);
        due("part 2", z.drawer(1, 1, 2), NO + 2);
        due("part -1", z.drawer(30, 0, -1), NO + 2);
        due("part most", z.drawer(30, 30, MOST), NO + 2);
        refusals(z, 0, 3, 0, 6, 7);
    }

    private static void order(WithoutThem x, int kind, int... order) {
        for (int k = 0; k < order.length; k++) {
            due("seeker(" + kind + ", " + k + ")", x.seeker(kind, k), order[k]);
        }
        for (int k : new int[] {order.length, order.length + 1, 10, 11, MOST}) {
            if (k >= order.length) {
                due("seeker(" + kind + ", " + k + ")", x.seeker(kind, k), -9);
            }
        }
    }

    private static void seekers() {
        says("of several the least number");
        WithoutThem ten = house(TEN);
        for (int kind = 0; kind <= 5; kind++) {
            order(ten, kind, 0, 1, 2, 3, 4, 5, 6, 7, 8, 9);
        }
        WithoutThem alike = house("tt5,3;tt4,4;tt5,3;tt4,4;c03;c12;c23;c32;");
        order(alike, 0, 0, 1, 2, 3);
        order(alike, 1, 1, 3, 0, 2);
        order(alike, 2, 1, 3, 0, 2);
        order(alike, 3, 0, 1, 2, 3);
        order(alike, 4, 0, 2, 1, 3);
        order(alike, 5, 1, 3, 0, 2);

        says("2 SAFE under SEEKER: that with the greatest SURE");
        WithoutThem far = house("tt1,5;tt1,1;tt1,10;tt1,9;tt1,2;c05;c10;c29;c38;c41;");
        order(far, 2, 2, 3, 0, 4, 1);

        says("4 LOST under SAFE: that with the least SURE");
        order(far, 4, 1, 4, 0, 3, 2);

        says("5 GREEDY under WISE: that with the least COST");
        order(far, 5, 1, 4, 0, 3, 2);
        order(house("tt1,5;tt1,1;tt1,9;c09;c20;"), 5, 2, 1, 0);

        says("1 QUICK under SEEKER: that with the fewest MINUTES now");
        // With 0 the LIT 2 takes 4; a WIDE 3 takes 5, 6, 7.
        order(house("tt5,1;tt6,1;tl8,1;tw5,1;"), 1, 0, 2, 1, 3);
        order(house("tt9,1;tt7,1;tp4,1;"), 1, 1, 2, 0);

        says("3 WISE under QUICK: that by which most MAY be had then");
        // With 3: 0, 1, 2 and 4 MAY be had; 4 needs 3. With 2 then 5 and 6.
        order(house("tt1,1;tt1,1;tt1,1;tt9,1;tt1,1;tt1,1;tt1,1;a43;a52;a62;"), 3, 2, 3, 0, 1, 4, 5, 6);
        // The one that comes is MAY no more: 0 leaves 1 and 2, so does each.
        order(house("tt1,1;tt1,1;tt1,1;"), 3, 0, 1, 2);

        says("the k-th that it takes (-9 none)");
        order(new WithoutThem(), 0);
        order(house(RING), 0, 3);
        WithoutThem x = house(RING, "h0;");
        order(x, 0, 1, 2, 3);
        order(x, 2, 3, 1, 2);
        order(x, 4, 1, 2, 3);
        x.hand(1);
        x.hand(2);
        x.hand(3);
        order(x, 5);

        says("SEEKER: the k-th (0 first); -9. -2; -4.");
        WithoutThem y = house(RING);
        due("kind 6", y.seeker(6, 0), -2);
        due("kind -1", y.seeker(-1, 0), -2);
        due("kind 6, k -1", y.seeker(6, -1), -2);
        due("kind most", y.seeker(MOST, 0), -2);
        due("kind least", y.seeker(LEAST, LEAST), -2);
        due("k -1", y.seeker(0, -1), -4);
        due("k least", y.seeker(5, LEAST), -4);
        due("k 1, none", y.seeker(5, 1), -9);
        refusals(y, 0, 5, 0, 2, 0);
    }

    private static void seekersStop() {
        says("MINUTES till it can take no more");
        for (int kind = 0; kind <= 5; kind++) {
            due("no THINGS", new WithoutThem().seeks(kind), 0);
            due("3 alone", house(RING).seeks(kind), 4);
            due("all but 0", house(RING, "h0;").seeks(kind), 2 + 3 + 4);
            due("all are had", house(RING, "h0;h1;h2;h3;").seeks(kind), 0);
            due("ten", house(TEN).seeks(kind), 10);
        }
        // Each WIDE one takes as many more as are had: 10 times 30 and 0 .. 9.
        String wide = "tw30,1;tw30,1;tw30,1;tw30,1;tw30,1;";
        due("ten WIDE ones", house(wide, wide).seeks(0), 345);

        says("MINUTES of a SEEKER. -2.");
        WithoutThem x = house(RING);
        int[] kinds = {-1, 6, LEAST, MOST};
        for (int kind : kinds) {
            due("seeks(" + kind + ")", x.seeks(kind), -2);
        }
        refusals(x, 0, 4, 0, 0, 0);
        WithoutThem y = house("tt30,10;");
        for (int i = 0; i < 333; i++) {
            if (i % 3 == 0) {
                y.take(0);
                y.hand(0);
            }
        }
        due("MINUTE is not of it", y.seeks(0), 30);
        due("MINUTE", y.count(2), 3330);
    }

    private static void rows() {
        says("A ROW of THINGS (0 .. 9; 12 at most) as they were had");
        WithoutThem x = house("tt1,1;");
        due("row(0)", x.row(0), 1);
        due("row(9), though there is none", x.row(9), 2);
        for (int i = 3; i <= 12; i++) {
            due("row", x.row(9), i);
        }
        due("the 13th", x.row(0), -6);
        due("in the ROW", x.count(5), 12);
        due("the second could not", x.judge(), 9);
        due("none", x.count(5), 0);
        due("the first of the next", x.row(0), 1);

        says("A THING more of the ROW (0 .. 9): how many. -4; -6 (9; 12, too).");
        WithoutThem y = new WithoutThem();
        due("row(-1)", y.row(-1), -4);
        due("row(least)", y.row(LEAST), -4);
        due("row(10)", y.row(10), -6);
        due("row(most)", y.row(MOST), -6);
        due("in the ROW", y.count(5), 0);
        for (int i = 1; i <= 12; i++) {
            due("row", y.row(i % 10), i);
        }
        due("full", y.row(9), -6);
        due("full and above: one refusal", y.row(10), -6);
        due("full and below", y.row(-1), -4);
        refusals(y, 0, 0, 0, 3, 4);
    }

    private static int judge(WithoutThem x, int... row) {
        for (int v : row) {
            x.row(v);
        }
        return x.judge();
    }

    private static void judged() {
        says("the first that could not be had (had already, too); -9");
        WithoutThem x = house(RING);
        due("an empty ROW", x.judge(), -9);
        due("3", judge(x, 3), -9);
        due("3 twice", judge(x, 3, 3), 3);
        due("0, BARRED", judge(x, 0), 0);
        due("3, then 2", judge(x, 3, 2, 1, 0), 2);
        x.hand(0);
        due("0 is had", judge(x, 1, 0, 2), 0);
        due("as they came", judge(x, 1, 2, 3), -9);
        due("as they came", judge(x, 3, 1, 2), -9);
        due("2 ahead of 1", judge(x, 3, 2, 1), 2);
        due("4 is none", judge(x, 1, 4, 0), 4);
        due("the twelfth", judge(house(TEN), 0, 1, 2, 3, 4, 5, 6, 7, 8, 9, 5, 4), 5);
        due("ten", judge(house(TEN), 9, 8, 7, 6, 5, 4, 3, 2, 1, 0), -9);
        due("no THINGS", judge(new WithoutThem(), 0), 0);
        due("HAND", x.count(1), 1);
        due("MINUTE", x.count(2), 0);

        says("JUDGED; -9 (whichever it answers, the ROW has none then).");
        due("one that could", judge(x, 1), -9);
        due("none in it", x.count(5), 0);
        due("one that could not", judge(x, 2, 1, 3), 2);
        due("none in it", x.count(5), 0);
        due("an empty ROW", x.judge(), -9);
        due("none in it", x.count(5), 0);
        refusals(x, 0, 0, 0, 0, 0);
    }

    private static void lots() {
        says("one go behind the other (60 at most), in mind");
        WithoutThem x = house("tt3,1;tt30,10;a10;");
        String before = state(x);
        due("never in 60 goes", x.lots(0, 299), 60 * 3);
        due("at the 60th alone: none behind it", x.lots(0, 3547), 60 * 3);
        due("at the 61st: it is not made", x.lots(0, 991), 60 * 3);
        due("at the 46th, then the other", x.lots(0, -12345), 46 * 3 + 30);
        same("in mind", state(x), before);
        due("nothing to take", new WithoutThem().lots(0, 299), 0);
        due("all are had", house("tt3,1;h0;").lots(5, 299), 0);
        due("BARRED", house("tt3,1;tt3,1;a01;a10;").lots(3, 1), 0);
        String wide = "tw30,1;tw30,1;tw30,1;tw30,1;tw30,1;";
        int most = house(wide, wide).lots(0, 0);
        due("60 goes of 30 .. 39", most >= 60 * 30 && most <= 60 * 39 ? 1 : 0, 1);

        says("MINUTES of all goes");
        // The first DRAWS of 0 are 3, 7, 6, 9, 9, 0: the sixth go brings one of SURE 2.
        due("each go as it is then", house("tt9,10;tl9,2;").lots(0, 0), 9 + 5 * 5);
        due("each go as it is then", house("tt9,10;tl9,2;a01;").lots(0, 0), 9 * 6 + 9);
        due("each go as it is then", house("tw3,10;tw4,2;").lots(0, 0), 3 + 5 * 5);
        due("MINUTE is not of it", x.count(2), 0);

        says("a DRAW below 10 is less than SURE: it is had (else made again)");
        // The first DRAWS of 0: 3, 7, 6, 9, 9, 0.
        int[] goes = {6, 6, 6, 1, 1, 1, 1, 1, 1, 1};
        for (int sure = 1; sure <= 10; sure++) {
            due("SURE " + sure, house("tt7," + sure + ";").lots(0, 0), 7 * goes[sure - 1]);
        }
        due("SURE 10 with a DRAW 9", house("tt7,4;tt7,7;tt7,10;tt7,10;").lots(0, 0), 7 * 5);
        due("SURE 9 with a DRAW 9", house("tt7,4;tt7,7;tt7,9;tt7,9;").lots(0, 0), 7 * 7);

        says("LOTS. -2.");
        int[] kinds = {-1, 6, LEAST, MOST};
        for (int kind : kinds) {
            due("lots(" + kind + ")", x.lots(kind, 0), -2);
        }
        refusals(x, 0, 4, 0, 0, 0);
    }

    private static void draws() {
        says("z becomes z times 1664525 and 1013904223 (an int)");
        // Goes till one of SURE 1 is had, and of SURE 5: each seed's DRAWS were reckoned elsewhere.
        int[][] want = {{0, 6, 1}, {1, 4, 2}, {-1, 2, 1}, {7, 4, 4}, {MOST, 2, 1}, {LEAST, 6, 1}, {20261118, 9, 1},
            {12345, 1, 1}, {-12345, 46, 3}};
        for (int[] w : want) {
            due("SURE 1, seed " + w[0], house("tt1,1;").lots(0, w[0]), w[1]);
            due("SURE 5, seed " + w[0], house("tt1,5;").lots(0, w[0]), w[2]);
        }

        says("(z without its sign's bit by 256, cut) modulo m");
        // Behind 7 comes 1025555898 (7), then -371543599 (5, as its lower bits tell), 6 and 0.
        due("the second z is below 0", house("tt1,5;").lots(0, 7), 4);
        due("the second z is below 0", house("tt1,6;").lots(0, 7), 2);
        // Behind the greatest int comes -1135243950 (1), then -1340617591 (0).
        due("the first z is below 0", house("tt1,1;").lots(0, MOST), 2);
        due("the first z is below 0", house("tt1,2;").lots(0, MOST), 1);
        due("a seed's sign changes nothing", house("tt1,3;").lots(0, LEAST), house("tt1,3;").lots(0, 0));
    }

    private static void image() {
        says("all that there is, but it, the ROW, letters, REFUSALS; ON from it all is as then");
        WithoutThem x = house(RING, "c09;c30;h0;");
        x.take(1);
        x.row(1);
        x.letter('h');
        x.take(9);
        String then = state(x);
        due("image", x.image(), 2);
        for (int thing = 0; thing < 4; thing++) {
            x.hand(thing);
            x.need(thing, (thing + 1) % 4, 0);
            x.need(thing, (thing + 2) % 4, 1);
        }
        due("house", tell(x, "0;c07;c17;c27;c37;tb9,9;tl8,8;n45;a54;"), 9);
        x.take(5);
        x.row(2);
        x.letter('x');
        x.letter('y');
        x.take(9);
        due("on", x.on(), 2);
        same("all but the ROW and letters", state(x), then.replaceFirst("1 1 \\|", "2 2 |"));
        refusals(x, 2, 0, 1, 0, 0);
        due("new ones", tell(x, "z"), -1000);
        due("new ones", tell(x, "tw9,9;tp8,8;"), 2);
        due("ANY and ALL", x.thing(4, 4) + x.thing(4, 5) + x.thing(5, 4) + x.thing(5, 5), 0);
        due("COSTS", x.thing(4, 3) + x.thing(5, 3), 2);
        due("KINDS", x.thing(4, 0) * 10 + x.thing(5, 0), 45);
        due("on again: the IMAGE is still there", x.on(), 2);
        due("THINGS", x.count(0), 4);

        says("THE IMAGE is taken: MINUTE.");
        WithoutThem y = new WithoutThem();
        due("of no THINGS", y.image(), 0);
        tell(y, "tt5,5;");
        y.take(0);
        due("of one", y.image(), 5);
        due("twice", y.image(), 5);
        y.hand(0);
        y.take(0);
        due("MINUTE", y.count(2), 10);
        due("the later one", y.on(), 5);
        due("THINGS", y.count(0) * 10 + y.count(1), 11);

        says("ON from it: MINUTE. -3 there is none.");
        WithoutThem z = house("tt5,5;");
        due("on", z.on(), -3);
        due("on", z.on(), -3);
        due("image", z.image(), 0);
        due("on", z.on(), 0);
        due("on", z.on(), 0);
        refusals(z, 0, 0, 2, 0, 0);
        WithoutThem none = new WithoutThem();
        none.image();
        tell(none, TEN);
        none.take(3);
        due("on", none.on(), 0);
        same("no THINGS", state(none), "0 0 0 0 0 0 0 |0 0");
        due("ten come again", tell(none, TEN), 10);
    }

    private static void fractions() {
        says("Fractions are told in least terms; 0 as 0 by 1.");
        mean(house("tt6,4;"), 1, 15, 1);
        mean(house("tt7,4;"), 1, 35, 2);
        mean(house("tt6,9;"), 1, 20, 3);
        mean(house("tt6,9;h0;"), 1, 0, 1);
        sure(house("tt6,4;tt6,5;"), 1, 5);
        sure(house("tt6,8;"), 4, 5);
        WithoutThem x = new WithoutThem();
        fraction("drawer(4, 1)", x.drawer(4, 1, 0), x.drawer(4, 1, 1), 2, 1);
        fraction("drawer(5, 1)", x.drawer(5, 1, 0), x.drawer(5, 1, 1), 5, 2);
    }

    private static void refusedNumbers() {
        says("-1 NOBODY: no such THING, bits of none.");
        WithoutThem x = house("tt1,1;tt1,1;tt1,1;tt1,1;");
        due("a THING", x.thing(4, 0), -1);
        due("bits", x.with(16), -1);
        due("NOBODY", x.count(11), 2);

        says("-2 OTHER: what, KIND.");
        due("what", x.thing(0, 8), -2);
        due("KIND", x.seeks(6), -2);
        due("OTHER", x.count(12), 2);

        says("-3 STATE: it is not as it must be.");
        x.hand(0);
        due("had", x.take(0), -3);
        due("STATE", x.count(13), 1);

        says("-4 BELOW: a number below the least.");
        due("letter", x.letter(-1), -4);
        due("BELOW", x.count(14), 1);

        says("-6 ROOM: a number above the greatest, no room.");
        due("letter", x.letter(256), -6);
        due("ROOM", x.count(16), 1);
        refusals(x, 2, 2, 1, 1, 1);

        says("Of longs 4000000000000000000 less them (-1 as 4000000000000000001).");
        due("-1", x.mean(16, 0), 4000000000000000001L);
        due("-2", x.mean(1, 2), 4000000000000000002L);
        due("-2", x.surely(2), 4000000000000000002L);
        due("-2", x.drawer(1, 1, 2), 4000000000000000002L);
        due("-4", x.drawer(0, 0, 0), 4000000000000000004L);
        due("-6", x.drawer(31, 0, 0), 4000000000000000006L);
        refusals(x, 3, 5, 1, 2, 2);
    }

    private static void refusedFirst() {
        says("the call answers the number, the first that fits in the order in which it tells them");
        WithoutThem x = house("tt1,1;tt1,1;h0;");
        due("thing: -1 ahead of -2", x.thing(2, 8), -1);
        due("need: -1 ahead of -2", x.need(2, 0, 2), -1);
        due("need: -1 ahead of -2", x.need(0, 2, 2), -1);
        due("need: -1 ahead of -2", x.need(0, 0, 2), -1);
        due("soonest: -1 ahead of -2", x.soonest(4, 2), -1);
        due("mean: -1 ahead of -2", x.mean(4, 2), NO + 1);
        due("ways: -1 ahead of -3", x.ways(4), -1);
        due("must: -1 ahead of -3", x.must(4), -1);
        due("halfway: -1 ahead of -3", x.halfway(4, 0), -1);
        due("halfway: -1 ahead of -4", x.halfway(5, -1), -1);
        due("halfway: -1 ahead of -6", x.halfway(5, 9), -1);
        due("halfway: -3 ahead of -4", x.halfway(2, -1), -3);
        due("halfway: -3 ahead of -6", x.halfway(2, 9), -3);
        due("drawer: -4 ahead of -6", x.drawer(0, 1, 0), NO + 4);
        due("drawer: -4 ahead of -6", x.drawer(31, -1, 0), NO + 4);
        due("drawer: -4 ahead of -2", x.drawer(0, 0, 2), NO + 4);
        due("drawer: -6 ahead of -2", x.drawer(31, 0, 2), NO + 6);
        due("drawer: -6 ahead of -2", x.drawer(3, 4, 2), NO + 6);
        due("seeker: -2 ahead of -4", x.seeker(6, -1), -2);
        refusals(x, 11, 1, 2, 3, 2);
    }

    private static void refusedNothing() {
        says("nothing changes but how many there were");
        WithoutThem x = house(RING, "c09;h0;");
        x.take(1);
        x.row(3);
        x.letter('h');
        x.image();
        x.take(2);
        String before = state(x);
        due("letter", x.letter(256) + x.letter(-1), -10);
        due("thing", x.thing(4, 0) + x.thing(0, 9), -3);
        due("need", x.need(0, 4, 0) + x.need(1, 1, 1) + x.need(0, 1, 2) + x.need(0, 1, -1), -6);
        due("hand", x.hand(4) + x.hand(-1), -2);
        due("take", x.take(4) + x.take(0), -4);
        due("with", x.with(16), -1);
        due("soonest", x.soonest(16, 0) + x.soonest(1, 2), -3);
        due("mean", x.mean(16, 0) - NO + x.mean(1, 2) - NO, 3);
        due("surely", x.surely(2) - NO, 2);
        due("beg", x.beg(2), -2);
        due("does", x.does(4), -1);
        due("ways", x.ways(16) + x.ways(8), -4);
        due("must", x.must(16) + x.must(8), -4);
        due("halfway", x.halfway(16, 0) + x.halfway(8, 0) + x.halfway(15, -1) + x.halfway(15, 2), -14);
        due("drawer", x.drawer(0, 0, 0) - NO + x.drawer(31, 0, 0) - NO + x.drawer(1, 0, 2) - NO, 12);
        due("seeker", x.seeker(6, 0) + x.seeker(0, -1), -6);
        due("seeks", x.seeks(6), -2);
        due("row", x.row(-1) + x.row(10), -10);
        due("lots", x.lots(6, 0), -2);
        same("it all", state(x), before);
        due("-1", x.count(11), 13);
        due("-2", x.count(12), 11);
        due("-3", x.count(13), 4);
        due("-4", x.count(14), 5);
        due("-6", x.count(16), 4);
        due("the ROW", x.judge(), -9);
        due("letters", x.letter('0') + x.letter(';'), 5);
        due("house", x.house(), 1);
        due("had", x.thing(0, 7), 0);
        due("the IMAGE", x.on(), 2);
        due("had", x.thing(0, 7) * 100 + x.thing(2, 7), 100);
        // As refusals that are none: -9, FAULTS.
        due("-9", x.seeker(0, 9) + x.soonest(0, 1) + x.count(7), -27);
        due("a FAULT", tell(x, "x"), -1000);
        refusals(x, 13, 11, 4, 5, 4);
    }

    private static void counts() {
        says("0 THINGS, 1 had, 2 MINUTE, 3 BARRED, 4 all COSTS, 5 in the ROW, 6 letters, 11 .. 16 REFUSALS -1 .. -6. "
            + "-9 for another what.");
        WithoutThem x = house(RING, "c09;c18;c20;");
        due("3", x.take(3), 4);
        x.row(1);
        x.letter('t');
        x.letter('t');
        int[] want = {4, 1, 4, 3, 18, 1, 2};
        for (int what = 0; what < want.length; what++) {
            due("count(" + what + ")", x.count(what), want[what]);
        }
        refusals(x, 0, 0, 0, 0, 0);
        int[] others = {-1, 7, 8, 9, 10, 17, 18, 100, LEAST, MOST};
        for (int what : others) {
            due("count(" + what + ")", x.count(what), -9);
        }
        due("no -5 is told", x.count(15), 0);
        refusals(x, 0, 0, 0, 0, 0);
        due("all COSTS of ten", house(TEN, "c09;c19;c29;c39;c49;c59;c69;c79;c89;c99;").count(4), 90);
        due("no COSTS", house("tt1,1;c00;").count(4), 0);
    }
}
