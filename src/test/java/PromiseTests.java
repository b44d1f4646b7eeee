/** Each promise of the document: ordinary inputs, the edges that it names, wrong inputs. */
public final class PromiseTests {
    private static final int LEAST = Integer.MIN_VALUE;
    private static final int GREATEST = Integer.MAX_VALUE;
    private static final long LONG = 4000000000000000000L;

    private static int wrong = 0;
    private static String part = "";

    private static void due(String call, long got, long want) {
        if (got != want) {
            wrong++;
            System.out.println(part + ": " + call + " answered " + got + ", due is " + want);
        }
    }

    private static int tell(StileWantsCompliment x, String text) {
        for (int i = 0; i < text.length(); i++) {
            x.letter(text.charAt(i));
        }
        return x.county();
    }

    /** A new object that was told the county, which must be without fault. */
    private static StileWantsCompliment told(String text) {
        StileWantsCompliment x = new StileWantsCompliment();
        int statements = 0;
        for (int i = 0; i < text.length(); i++) {
            statements += text.charAt(i) == ';' ? 1 : 0;
        }
        due("county of " + text, tell(x, text), statements);
        return x;
    }

    private static void refusals(StileWantsCompliment x, int one, int two, int three, int four, int six) {
        due("count(11)", x.count(11), one);
        due("count(12)", x.count(12), two);
        due("count(13)", x.count(13), three);
        due("count(14)", x.count(14), four);
        due("count(15)", x.count(15), 0);
        due("count(16)", x.count(16), six);
    }

    private static String times(String text, int n) {
        StringBuilder all = new StringBuilder();
        for (int i = 0; i < n; i++) {
            all.append(text);
        }
        return all.toString();
    }

    // ---- 1 to 3

    private static void promise1NewObject() {
        part = "1 A new object";
        StileWantsCompliment x = new StileWantsCompliment();
        for (int what = 0; what <= 7; what++) {
            due("count(" + what + ")", x.count(what), 0);
        }
        refusals(x, 0, 0, 0, 0, 0);
        due("shy()", x.shy(), 0);
        due("meet(0)", x.meet(0), 0);
        due("meet(1)", x.meet(1), 0);
        due("judge()", x.judge(), -9);
        due("clear()", x.clear(), 0);
        due("on()", x.on(), -3);
        due("stile(0, 0)", x.stile(0, 0), -1);
        due("walker(0, 0)", x.walker(0, 0), -1);
        StileWantsCompliment other = told("sa001;w630;d09;");
        due("count(0) of the other", other.count(0), 1);
        due("count(0)", x.count(0), 0);
        due("count(2)", x.count(2), 0);
    }

    private static void promise2Letter() {
        part = "2 letter";
        StileWantsCompliment x = new StileWantsCompliment();
        due("letter(0)", x.letter(0), 1);
        due("letter(255)", x.letter(255), 2);
        due("letter(-1)", x.letter(-1), -4);
        due("letter(least)", x.letter(LEAST), -4);
        due("letter(256)", x.letter(256), -6);
        due("letter(greatest)", x.letter(GREATEST), -6);
        due("count(7)", x.count(7), 2);
        for (int n = 3; n <= 96; n++) {
            due("letter(120)", x.letter(120), n);
        }
        due("the 97th", x.letter(120), -6);
        due("letter(-1), full", x.letter(-1), -4);
        due("letter(256), full", x.letter(256), -6);
        due("count(7)", x.count(7), 96);
        refusals(x, 0, 0, 0, 3, 4);
        due("county()", x.county(), -1000);
        due("letter behind it", x.letter(1), 1);
    }

    private static void fault(String text, int want) {
        StileWantsCompliment x = new StileWantsCompliment();
        due("county of '" + text + "'", tell(x, text), want);
        for (int what = 0; what <= 7; what++) {
            due("count(" + what + ") behind '" + text + "'", x.count(what), 0);
        }
        refusals(x, 0, 0, 0, 0, 0);
    }

    private static void promise3CountyFirstKind() {
        part = "3 county, faults of kind 1";
        fault("", -1000);
        fault(";", -1000);
        fault("x", -1000);
        fault("S", -1000);
        fault("s", -1001);
        fault("sx", -1001);
        fault("sw", -1001);
        fault("s0", -1001);
        fault("sa", -1002);
        fault("sa;", -1002);
        fault("sa/", -1002);
        fault("sa:", -1002);
        fault("sa0", -1003);
        fault("sa00", -1004);
        fault("sa001", -1005);
        fault("sa0012", -1005);
        fault("sa001;x", -1006);
        fault("sa001;;", -1006);
        fault("sa001;s", -1007);
        fault("w", -1001);
        fault("w6", -1002);
        fault("w63", -1003);
        fault("w630", -1004);
        fault("w6300;", -1004);
        fault("c00;", -1003);
        fault("c000", -1004);
        fault("k0;", -1002);
        fault("k00", -1003);
        fault("k000;", -1003);
        fault("f;", -1001);
        fault("f00;", -1002);
        fault("d1;", -1002);
        fault("d010;", -1003);
        fault("d0 1;", -1002);
        fault(times("d01;", 23) + "sa01", -1096);
        fault("sa000;x", -1006);
        fault("c000;w64", -1008);
    }

    private static void promise3CountySecondKind() {
        part = "3 county, faults of kind 2";
        fault("sa000;", -2000);
        fault("sa977;", -2000);
        fault("sa081;", -2000);
        fault("sa018;", -2000);
        fault("sa090;", -2000);
        fault("sa009;", -2000);
        fault("sa001;sp000;", -2006);
        fault(times("sa001;", 9) + "sa001;", -2054);
        fault("w640;", -2000);
        fault("w990;", -2000);
        fault("w638;", -2000);
        fault("w639;", -2000);
        fault(times("w017;", 5) + "w017;", -2025);
        fault("c000;", -2000);
        fault("w630;c000;", -2005);
        fault("sa001;c000;", -2006);
        fault("sa001;w630;c100;", -2011);
        fault("sa001;w630;c010;", -2011);
        fault("sa001;w630;c006;", -2011);
        fault("sa001;w620;c000;", -2011);
        fault("sa001;w632;c001;", -2011);
        fault("sa001;sa012;w630;c011;c001;", -2017);
        fault("sa001;sa012;w630;c001;c012;c013;c012;c003;c012;", -2042);
        fault("k00;", -2000);
        fault("w000;k10;", -2005);
        fault("w000;k06;", -2005);
        fault("f0;", -2000);
        fault("sa001;f1;", -2006);
        fault("d00;", -2000);
        fault("d61;", -2000);
        fault("d99;", -2000);
        fault(times("d60;", 16) + "d40;", -2064);
        fault(times("d60;", 16) + "d39;d01;", -2068);
        fault("sa001;w000;k00;k00;c000;", -2019);
    }

    private static void promise3CountyWithoutFault() {
        part = "3 county";
        StileWantsCompliment x = new StileWantsCompliment();
        due("first", tell(x, "sa001;w030;c001;d05;k00;k05;"), 6);
        due("count(0)", x.count(0), 1);
        due("count(1)", x.count(1), 1);
        due("count(2)", x.count(2), 5);
        due("count(3)", x.count(3), 1);
        due("count(5)", x.count(5), 1);
        due("count(7)", x.count(7), 0);
        due("walker(0, 0)", x.walker(0, 0), 34);
        due("walker(0, 1)", x.walker(0, 1), 1);
        due("last(0, 1)", x.last(0, 1), 5);
        due("not pleased", tell(x, "c001;"), 1);
        due("walker(0, 1)", x.walker(0, 1), 1);
        due("last(0, 1)", x.last(0, 1), 0);
        due("count(3)", x.count(3), 1);
        due("forgets", tell(x, "f0;"), 1);
        due("last(0, 1)", x.last(0, 1), -9);
        due("pleased again", tell(x, "c001;"), 1);
        due("walker(0, 1)", x.walker(0, 1), 0);
        due("count(3)", x.count(3), 2);
        due("fault behind much", tell(x, "sy567;w012;c005;d10;f0;k00;c011;"), -2027);
        due("count(0)", x.count(0), 1);
        due("count(1)", x.count(1), 1);
        due("count(2)", x.count(2), 5);
        due("count(3)", x.count(3), 2);
        due("walker(0, 0)", x.walker(0, 0), 34);
        due("walker(0, 1)", x.walker(0, 1), 0);
        due("last(0, 1)", x.last(0, 1), 0);
        due("last(0, 5)", x.last(0, 5), -9);
        due("sixty days", tell(x, "d60;"), 1);
        due("count(2)", x.count(2), 65);
        due("to 965", tell(x, times("d60;", 15)), 15);
        due("to 999", tell(x, "d34;"), 1);
        due("count(2)", x.count(2), 999);
        due("above", tell(x, "d01;"), -2000);
        due("nine stiles", tell(x, times("sp501;", 8)), 8);
        due("a tenth", tell(x, "sp501;"), -2000);
        due("five walkers", tell(x, times("w637;", 4)), 4);
        due("a sixth", tell(x, "w637;"), -2000);
        refusals(x, 0, 0, 0, 0, 0);
        StileWantsCompliment full = new StileWantsCompliment();
        due("96 letters", tell(full, times("d01;", 24)), 24);
        due("count(2)", full.count(2), 24);
    }

    // ---- 4 to 12

    private static void promise4Stile() {
        part = "4 stile";
        StileWantsCompliment x = told("sa701;ss812;sp923;sy034;sg445;sd456;sd567;ss370;w010;w067;w000;");
        int[] pleasing = {61, 17, 8, 63, 47, 63, 63, 34};
        int[] figures = {7, 8, 9, 0, 4, 4, 5, 3};
        int[] kinds = {0, 1, 2, 3, 4, 5, 5, 1};
        int[] calls = {2, 1, 0, 2, 2, 2, 2, 1};
        for (int s = 0; s < 8; s++) {
            due("stile(" + s + ", 0)", x.stile(s, 0), kinds[s]);
            due("stile(" + s + ", 1)", x.stile(s, 1), figures[s]);
            due("stile(" + s + ", 2)", x.stile(s, 2), s);
            due("stile(" + s + ", 3)", x.stile(s, 3), (s + 1) % 8);
            due("stile(" + s + ", 4)", x.stile(s, 4), pleasing[s]);
            due("stile(" + s + ", 5)", x.stile(s, 5), calls[s]);
        }
        due("stile(8, 0)", x.stile(8, 0), -1);
        due("stile(-1, 0)", x.stile(-1, 0), -1);
        due("stile(least, 9)", x.stile(LEAST, 9), -1);
        due("stile(greatest, 9)", x.stile(GREATEST, 9), -1);
        due("stile(0, 6)", x.stile(0, 6), -2);
        due("stile(0, -1)", x.stile(0, -1), -2);
        due("stile(0, greatest)", x.stile(0, GREATEST), -2);
        refusals(x, 4, 3, 0, 0, 0);
        StileWantsCompliment turned = told("sd430;");
        due("stile(0, 2)", turned.stile(0, 2), 3);
        due("stile(0, 3)", turned.stile(0, 3), 0);
    }

    private static void promise5Walker() {
        part = "5 walker";
        StileWantsCompliment x = told("sa001;sa012;sp523;sp545;sy067;w020;w007;w404;w630;w325;");
        int[][] want = {{2, 0, 19, 7}, {0, 7, 0, 128}, {40, 4, 31, 48}, {63, 0, 31, 15}, {32, 5, 31, 48}};
        for (int w = 0; w < 5; w++) {
            for (int what = 0; what < 4; what++) {
                due("walker(" + w + ", " + what + ")", x.walker(w, what), want[w][what]);
            }
        }
        due("walker(5, 0)", x.walker(5, 0), -1);
        due("walker(-1, 0)", x.walker(-1, 0), -1);
        due("walker(least, 4)", x.walker(LEAST, 4), -1);
        due("walker(0, 4)", x.walker(0, 4), -2);
        due("walker(0, -1)", x.walker(0, -1), -2);
        refusals(x, 3, 2, 0, 0, 0);
    }

    private static void promise6Last() {
        part = "6 last";
        StileWantsCompliment x = told("sp001;sp001;w030;c000;d03;");
        due("last(0, 0)", x.last(0, 0), 3);
        due("last(0, 1)", x.last(0, 1), -9);
        due("last(1, 0)", x.last(1, 0), -9);
        x.says(0, 1, 1);
        due("last(1, 1)", x.last(1, 1), 0);
        x.days(60);
        due("last(0, 0)", x.last(0, 0), 63);
        due("last(1, 1)", x.last(1, 1), 60);
        x.says(0, 0, 0);
        due("last(0, 0)", x.last(0, 0), 0);
        due("last(2, 0)", x.last(2, 0), -1);
        due("last(-1, 0)", x.last(-1, 0), -1);
        due("last(0, 6)", x.last(0, 6), -1);
        due("last(0, -1)", x.last(0, -1), -1);
        due("last(1, -6)", x.last(1, -6), -1);
        due("last(greatest, greatest)", x.last(GREATEST, GREATEST), -1);
        refusals(x, 6, 0, 0, 0, 0);
    }

    private static void promise7Says() {
        part = "7 says";
        StileWantsCompliment x = told("sa001;sa012;w230;w631;");
        due("says(0, 0, 0) is hers", x.says(0, 0, 0), 0);
        due("it was said", x.last(0, 0), 0);
        due("walker(0, 1)", x.walker(0, 1), 0);
        due("says(0, 0, 1)", x.says(0, 0, 1), 1);
        due("walker(0, 1)", x.walker(0, 1), 1);
        due("count(3)", x.count(3), 1);
        due("the other says it, too", x.says(1, 0, 1), 0);
        x.days(6);
        due("behind six days", x.says(1, 0, 1), 0);
        x.days(6);
        due("it was said in vain then", x.says(1, 0, 1), 0);
        x.days(7);
        due("behind seven days", x.says(1, 0, 1), 1);
        due("walker(1, 1)", x.walker(1, 1), 0);
        due("count(3)", x.count(3), 2);
        due("says(1, 1, 2) not of his field", x.says(1, 1, 2), -3);
        due("says(0, 1, 3) not in his store", x.says(0, 1, 3), -3);
        due("nothing was said", x.last(1, 3), -9);
        due("says(2, 0, 0)", x.says(2, 0, 0), -1);
        due("says(-1, 0, 0)", x.says(-1, 0, 0), -1);
        due("says(0, 2, 0)", x.says(0, 2, 0), -1);
        due("says(0, -1, 0)", x.says(0, -1, 0), -1);
        due("says(0, 1, 6)", x.says(0, 1, 6), -1);
        due("says(0, 1, -1)", x.says(0, 1, -1), -1);
        due("says(0, 1, 33)", x.says(0, 1, 33), -1);
        refusals(x, 7, 0, 2, 0, 0);
    }

    private static void promise8Learns() {
        part = "8 learns";
        StileWantsCompliment x = told("w000;w637;");
        due("learns(0, 5)", x.learns(0, 5), 32);
        due("learns(0, 0)", x.learns(0, 0), 33);
        due("learns(0, 5)", x.learns(0, 5), 1);
        due("learns(1, 3)", x.learns(1, 3), 55);
        due("walker(0, 0)", x.walker(0, 0), 1);
        due("walker(1, 0)", x.walker(1, 0), 55);
        due("learns(2, 0)", x.learns(2, 0), -1);
        due("learns(-1, 0)", x.learns(-1, 0), -1);
        due("learns(0, 6)", x.learns(0, 6), -1);
        due("learns(0, -1)", x.learns(0, -1), -1);
        due("learns(0, 32)", x.learns(0, 32), -1);
        refusals(x, 5, 0, 0, 0, 0);
    }

    private static void promise9Forgets() {
        part = "9 forgets";
        StileWantsCompliment x = told("sp001;sp001;w630;c000;c001;c001;c015;");
        due("count(5)", x.count(5), 3);
        due("forgets(0)", x.forgets(0), 2);
        due("last(0, 0)", x.last(0, 0), -9);
        due("last(0, 1)", x.last(0, 1), -9);
        due("last(1, 5)", x.last(1, 5), 0);
        due("count(5)", x.count(5), 1);
        due("again", x.forgets(0), 0);
        due("forgets(1)", x.forgets(1), 1);
        due("forgets(2)", x.forgets(2), -1);
        due("forgets(-1)", x.forgets(-1), -1);
        refusals(x, 2, 0, 0, 0, 0);
        StileWantsCompliment last = told(times("sy001;", 9) + "w630;c000;");
        due("forgets(8)", last.forgets(8), 0);
        due("forgets(0)", last.forgets(0), 1);
    }

    private static void promise10Stands() {
        part = "10 stands";
        StileWantsCompliment x = told("w002;w015;");
        due("stands(0, 7)", x.stands(0, 7), 2);
        due("stands(0, 0)", x.stands(0, 0), 7);
        due("stands(0, 0)", x.stands(0, 0), 0);
        due("walker(1, 1)", x.walker(1, 1), 5);
        due("stands(0, 8)", x.stands(0, 8), -1);
        due("stands(0, -1)", x.stands(0, -1), -1);
        due("stands(2, 0)", x.stands(2, 0), -1);
        due("stands(-1, 0)", x.stands(-1, 0), -1);
        due("walker(0, 1)", x.walker(0, 1), 0);
        due("count(3)", x.count(3), 0);
        refusals(x, 4, 0, 0, 0, 0);
    }

    private static void promise11Turn() {
        part = "11 turn";
        StileWantsCompliment x = told("sd901;sa312;");
        due("turn(0, 0, 0)", x.turn(0, 0, 0), 59);
        due("turn(0, 5, 9)", x.turn(0, 5, 9), 0);
        due("turn(1, 4, 1)", x.turn(1, 4, 1), 3);
        due("stile(1, 0)", x.stile(1, 0), 4);
        due("stile(1, 1)", x.stile(1, 1), 1);
        due("stile(1, 2)", x.stile(1, 2), 1);
        due("stile(1, 3)", x.stile(1, 3), 2);
        due("stile(1, 4)", x.stile(1, 4), 61);
        due("turn(2, 6, -1)", x.turn(2, 6, -1), -1);
        due("turn(-1, 0, 0)", x.turn(-1, 0, 0), -1);
        due("turn(0, 6, -1)", x.turn(0, 6, -1), -2);
        due("turn(0, -1, 10)", x.turn(0, -1, 10), -2);
        due("turn(0, 0, -1)", x.turn(0, 0, -1), -4);
        due("turn(0, 0, 10)", x.turn(0, 0, 10), -6);
        due("turn(0, 0, greatest)", x.turn(0, 0, GREATEST), -6);
        due("stile(0, 0)", x.stile(0, 0), 5);
        due("stile(0, 1)", x.stile(0, 1), 9);
        refusals(x, 2, 2, 0, 1, 2);
        StileWantsCompliment said = told("sa501;w630;c000;");
        said.turn(0, 3, 5);
        due("what was said there stays", said.stile(0, 4), 62);
    }

    private static void promise12Days() {
        part = "12 days";
        StileWantsCompliment x = new StileWantsCompliment();
        due("days(1)", x.days(1), 1);
        due("days(60)", x.days(60), 61);
        due("days(0)", x.days(0), -4);
        due("days(-1)", x.days(-1), -4);
        due("days(least)", x.days(LEAST), -4);
        due("days(61)", x.days(61), -6);
        due("days(greatest)", x.days(GREATEST), -6);
        for (int n = 1; n <= 15; n++) {
            x.days(60);
        }
        due("days(39)", x.days(39), -6);
        due("days(38)", x.days(38), 999);
        due("days(1)", x.days(1), -6);
        due("days(0)", x.days(0), -4);
        due("count(2)", x.count(2), 999);
        refusals(x, 0, 0, 0, 4, 4);
    }

    // ---- 13 to 17

    private static void promise13PleasesThenByKind() {
        part = "13 pleasesThen";
        int[][] said = {
            // kind, figure, the one said, days on, what pleases then
            {0, 7, 0, 0, 60}, {0, 7, 0, 6, 60}, {0, 7, 0, 7, 61}, {0, 7, 1, 7, 61}, {0, 7, 1, 0, 61},
            {1, 7, 3, 0, 32}, {1, 7, 3, 6, 32}, {1, 7, 3, 7, 40}, {1, 8, 4, 0, 1}, {1, 8, 3, 0, 17},
            {1, 0, 5, 0, 20}, {1, 9, 5, 0, 2}, {1, 9, 5, 7, 34}, {1, 6, 0, 0, 20},
            {2, 9, 3, 0, 8}, {2, 6, 1, 0, 1}, {2, 5, 5, 0, 32}, {2, 5, 5, 60, 32},
            {3, 2, 2, 0, 59}, {3, 2, 2, 2, 59}, {3, 2, 2, 3, 63}, {3, 9, 5, 1, 31}, {3, 9, 5, 60, 63},
            {4, 4, 0, 0, 46}, {4, 4, 0, 2, 46}, {4, 4, 0, 6, 46}, {4, 4, 0, 7, 47}, {4, 5, 5, 0, 31},
            {5, 4, 2, 0, 59}, {5, 4, 2, 2, 59}, {5, 4, 2, 3, 63}, {5, 5, 2, 0, 63}, {5, 0, 4, 1, 47}};
        for (int[] one : said) {
            StileWantsCompliment x = told("sa001;w630;");
            x.turn(0, one[0], one[1]);
            x.days(5);
            x.says(0, 0, one[2]);
            due("kind " + one[0] + " figure " + one[1] + " said " + one[2] + ", pleasesThen(0, " + one[3]
                    + ")", x.pleasesThen(0, one[3]), one[4]);
            x.days(Math.max(1, one[3]));
            if (one[3] > 0) {
                due("stile(0, 4) then", x.stile(0, 4), one[4]);
            }
        }
    }

    private static void promise13PleasesThen() {
        part = "13 pleasesThen";
        StileWantsCompliment x = told("sg401;sa012;w630;w631;d10;c111;");
        due("a gossip hears of it, 0", x.pleasesThen(0, 0), 45);
        due("a gossip hears of it, 1", x.pleasesThen(0, 1), 45);
        due("a gossip hears of it, 2", x.pleasesThen(0, 2), 47);
        due("nobody else does", x.pleasesThen(1, 0), 60);
        due("pleasesThen(1, 6)", x.pleasesThen(1, 6), 60);
        due("pleasesThen(1, 7)", x.pleasesThen(1, 7), 62);
        due("pleasesThen(0, 60)", x.pleasesThen(0, 60), 47);
        due("count(2)", x.count(2), 10);
        due("pleasesThen(2, -1)", x.pleasesThen(2, -1), -1);
        due("pleasesThen(-1, 0)", x.pleasesThen(-1, 0), -1);
        due("pleasesThen(0, -1)", x.pleasesThen(0, -1), -4);
        due("pleasesThen(0, 61)", x.pleasesThen(0, 61), -6);
        due("pleasesThen(0, greatest)", x.pleasesThen(0, GREATEST), -6);
        refusals(x, 2, 0, 0, 1, 2);
        StileWantsCompliment late = told(times("d60;", 16) + "d39;sa101;w010;");
        late.says(0, 0, 0);
        due("day may pass 999, 6", late.pleasesThen(0, 6), 60);
        due("day may pass 999, 7", late.pleasesThen(0, 7), 61);
    }

    private static void promise14OpenThen() {
        part = "14 openThen";
        StileWantsCompliment x = told("sa501;sy001;sp234;w010;w630;c000;c110;");
        due("walker(0, 1)", x.walker(0, 1), 1);
        due("openThen(0, 0)", x.openThen(0, 0), 0);
        due("openThen(0, 2)", x.openThen(0, 2), 0);
        due("openThen(0, 3)", x.openThen(0, 3), 2);
        due("openThen(0, 6)", x.openThen(0, 6), 2);
        due("openThen(0, 7)", x.openThen(0, 7), 3);
        due("openThen(0, 60)", x.openThen(0, 60), 3);
        due("openThen(1, 0)", x.openThen(1, 0), 7);
        due("openThen(2, 0)", x.openThen(2, 0), -1);
        due("openThen(-1, 61)", x.openThen(-1, 61), -1);
        due("openThen(0, -1)", x.openThen(0, -1), -4);
        due("openThen(0, 61)", x.openThen(0, 61), -6);
        refusals(x, 2, 0, 0, 1, 1);
    }

    private static void promise15Way() {
        part = "15 way";
        StileWantsCompliment x = told("sp323;sp013;sp002;sp001;sp512;sp034;w010;w107;");
        due("way(0, 0, 0)", x.way(0, 0, 0), 0);
        due("way(0, 0, 1)", x.way(0, 0, 1), -9);
        due("way(0, 1, 0)", x.way(0, 1, 0), 1);
        due("way(0, 1, 1)", x.way(0, 1, 1), 3);
        due("way(0, 2, 1)", x.way(0, 2, 1), 2);
        due("way(0, 3, 0)", x.way(0, 3, 0), 2);
        due("way(0, 3, 1), 0 is not open", x.way(0, 3, 1), 3);
        due("way(0, 4, 0)", x.way(0, 4, 0), 3);
        due("way(0, 5, 0)", x.way(0, 5, 0), -9);
        due("way(0, 5, 1)", x.way(0, 5, 1), -9);
        x.learns(0, 3);
        due("way(0, 3, 1), now the least", x.way(0, 3, 1), 2);
        due("way(0, 4, 1)", x.way(0, 4, 1), 2);
        x.stands(0, 4);
        due("back, way(0, 0, 0)", x.way(0, 0, 0), 3);
        due("back, way(0, 0, 1)", x.way(0, 0, 1), 5);
        due("way(1, 7, 0)", x.way(1, 7, 0), 0);
        due("way(1, 0, 0)", x.way(1, 0, 0), -9);
        due("way(2, 0, 2)", x.way(2, 0, 2), -1);
        due("way(-1, 0, 0)", x.way(-1, 0, 0), -1);
        due("way(0, 8, 0)", x.way(0, 8, 0), -1);
        due("way(0, -1, 0)", x.way(0, -1, 0), -1);
        due("way(0, 0, 2)", x.way(0, 0, 2), -2);
        due("way(0, 0, -1)", x.way(0, 0, -1), -2);
        refusals(x, 4, 2, 0, 0, 0);
        StileWantsCompliment lane = told("sp001;sp012;sp023;sp034;sp045;sp056;sp067;w010;");
        due("seven stiles", lane.way(0, 7, 0), 7);
        due("the first", lane.way(0, 7, 1), 0);
        due("all reached", lane.walker(0, 3), 255);
    }

    private static void promise16Shy() {
        part = "16 shy";
        StileWantsCompliment x = told("sp001;sa112;w010;w020;w000;w633;w052;");
        due("shy()", x.shy(), 14);
        x.stands(0, 5);
        due("shy()", x.shy(), 15);
        x.stands(3, 2);
        x.learns(1, 0);
        due("shy()", x.shy(), 5);
        StileWantsCompliment none = told("sa001;");
        due("shy() without walkers", none.shy(), 0);
    }

    private static void promise17When() {
        part = "17 when";
        StileWantsCompliment x = told("sy001;sa112;w010;w630;c000;");
        due("when(0, 1), his own", x.when(0, 1), 0);
        due("when(0, 0)", x.when(0, 0), 3);
        due("when(0, 2)", x.when(0, 2), 0);
        due("when(1, 2)", x.when(1, 2), 0);
        x.says(0, 1, 0);
        due("walker(0, 1)", x.walker(0, 1), 2);
        due("when(0, 1)", x.when(0, 1), 7);
        due("when(0, 0), both open", x.when(0, 0), 7);
        due("when(0, 7)", x.when(0, 7), -9);
        x.days(5);
        due("when(0, 1)", x.when(0, 1), 2);
        due("when(0, 2)", x.when(0, 2), 0);
        due("when(2, 0)", x.when(2, 0), -1);
        due("when(-1, 0)", x.when(-1, 0), -1);
        due("when(0, 8)", x.when(0, 8), -1);
        due("when(0, -1)", x.when(0, -1), -1);
        refusals(x, 4, 0, 0, 0, 0);
        StileWantsCompliment late = told(times("d60;", 16) + "d39;sa101;w010;");
        late.says(0, 0, 0);
        due("past day 999", late.when(0, 0), 7);
    }

    // ---- 18 to 22

    private static void promise18Store() {
        part = "18 store";
        StileWantsCompliment x = told("sp301;sp112;sa023;sp223;sp404;sp545;w000;w636;");
        due("store(0, 0)", x.store(0, 0), 0);
        due("store(0, 1)", x.store(0, 1), 8);
        due("store(0, 2)", x.store(0, 2), 10);
        due("store(0, 3)", x.store(0, 3), 10);
        due("store(0, 4)", x.store(0, 4), 16);
        due("store(0, 5)", x.store(0, 5), 48);
        due("store(0, 6)", x.store(0, 6), -9);
        due("store(1, 6)", x.store(1, 6), 0);
        due("store(1, 0)", x.store(1, 0), -9);
        due("store(2, 0)", x.store(2, 0), -1);
        due("store(-1, 0)", x.store(-1, 0), -1);
        due("store(0, 8)", x.store(0, 8), -1);
        due("store(0, -1)", x.store(0, -1), -1);
        refusals(x, 4, 0, 0, 0, 0);
        StileWantsCompliment fewest = told("sp001;sp112;sp523;sp303;w000;");
        due("one rather than lesser bits", fewest.store(0, 3), 8);
        StileWantsCompliment least = told("sp501;sp201;w000;");
        due("of several the least", least.store(0, 1), 4);
        StileWantsCompliment all = told("sp001;sp112;sp223;sp334;sp445;sp556;w000;");
        due("all six", all.store(0, 6), 63);
    }

    private static void promise19Learn() {
        part = "19 learn";
        StileWantsCompliment x = told("sp501;sp312;sp414;sp245;w320;w006;");
        due("learn(0)", x.learn(0), 3);
        x.learns(0, 2);
        due("learn(0), more behind it", x.learn(0), 4);
        x.learns(0, 4);
        due("learn(0)", x.learn(0), 3);
        x.learns(0, 3);
        due("learn(0), all reached", x.learn(0), -9);
        due("learn(1), none", x.learn(1), -9);
        due("learn(2)", x.learn(2), -1);
        due("learn(-1)", x.learn(-1), -1);
        refusals(x, 2, 0, 0, 0, 0);
        StileWantsCompliment five = told("sp501;w000;");
        due("learn(0), the greatest", five.learn(0), 5);
        StileWantsCompliment count = told("sp007;sp201;sp212;w000;");
        due("more fields, not greater bits", count.learn(0), 2);
    }

    private static void promise20Gate() {
        part = "20 gate";
        StileWantsCompliment x = told("sp001;sp112;sp213;sp334;sp056;w010;w016;w007;");
        due("gate(0), 2 and 4 are not open", x.gate(0), 1);
        x.learns(0, 3);
        due("gate(0), more behind it", x.gate(0), 2);
        due("gate(1)", x.gate(1), -9);
        due("gate(2)", x.gate(2), -9);
        due("gate(3)", x.gate(3), -1);
        due("gate(-1)", x.gate(-1), -1);
        refusals(x, 2, 0, 0, 0, 0);
        StileWantsCompliment likewise = told("sp501;sp502;sp503;w000;");
        due("of several the least", likewise.gate(0), 0);
        StileWantsCompliment back = told("sp501;sp020;sp023;w012;");
        due("from the other side", back.gate(0), 0);
    }

    private static void promise21Needed() {
        part = "21 needed";
        StileWantsCompliment x = told("sp001;sp001;sp012;sp023;sp023;sp034;sp545;w010;");
        due("needed(0, 0)", x.needed(0, 0), -9);
        due("needed(0, 1)", x.needed(0, 1), -9);
        due("needed(0, 2)", x.needed(0, 2), 2);
        due("needed(0, 3)", x.needed(0, 3), 2);
        due("needed(0, 4), the least", x.needed(0, 4), 2);
        due("needed(0, 5), no way", x.needed(0, 5), -9);
        x.stands(0, 2);
        due("needed(0, 4)", x.needed(0, 4), 5);
        due("needed(0, 3)", x.needed(0, 3), -9);
        due("needed(1, 0)", x.needed(1, 0), -1);
        due("needed(-1, 0)", x.needed(-1, 0), -1);
        due("needed(0, 8)", x.needed(0, 8), -1);
        due("needed(0, -1)", x.needed(0, -1), -1);
        refusals(x, 4, 0, 0, 0, 0);
    }

    private static void promise22Say() {
        part = "22 say";
        StileWantsCompliment x = told("sa501;sg512;sp334;w030;w000;w323;");
        due("say(0, 0), both alike", x.say(0, 0), 0);
        due("nothing is said", x.last(0, 0), -9);
        due("he stays", x.walker(0, 1), 0);
        due("say(1, 0), nothing", x.say(1, 0), -9);
        due("say(0, 1) not of his field", x.say(0, 1), -3);
        due("say(2, 2) she does not like it", x.say(2, 2), -9);
        due("say(3, 0)", x.say(3, 0), -1);
        due("say(-1, 0)", x.say(-1, 0), -1);
        due("say(0, 3)", x.say(0, 3), -1);
        due("say(0, -1)", x.say(0, -1), -1);
        refusals(x, 4, 0, 1, 0, 0);
        StileWantsCompliment heard = told("sa501;sg012;w050;");
        due("what the gossip likes is kept", heard.say(0, 0), 0);
        StileWantsCompliment kept = told("sa501;ss423;w050;w070;");
        due("say(0, 0)", kept.say(0, 0), 0);
        StileWantsCompliment own = told("sg001;sg212;sg223;w060;");
        due("one that gossips do not like is better", own.say(0, 0), 2);
        due("from the other side too", own.stands(0, 1), 0);
        due("say(0, 0)", own.say(0, 0), 2);
        due("say(0, 1)", own.say(0, 1), 1);
    }

    // ---- 23 to 27

    private static void promise23Spent() {
        part = "23 spent";
        StileWantsCompliment x = new StileWantsCompliment();
        due("spent(0) without stiles", x.spent(0), 63);
        due("spent(1) without stiles", x.spent(1), 0);
        due("spent(2) without stiles", x.spent(2), -9);
        x = told("sp301;ss112;sy423;w632;");
        due("spent(0)", x.spent(0), 0);
        due("spent(1)", x.spent(1), 0);
        due("spent(2)", x.spent(2), 2);
        x.turn(2, 0, 0);
        due("spent(0)", x.spent(0), 1);
        due("spent(1), pleases nowhere", x.spent(1), 0);
        due("spent(2)", x.spent(2), 2);
        x.says(0, 2, 4);
        due("spent(0)", x.spent(0), 17);
        due("spent(3)", x.spent(3), -2);
        due("spent(-1)", x.spent(-1), -2);
        refusals(x, 0, 2, 0, 0, 0);
        StileWantsCompliment few = told("sa301;sa401;sy001;sy101;");
        due("spent(1), of two the least", few.spent(1), 3);
        due("spent(2), of two the least", few.spent(2), 2);
        StileWantsCompliment nothing = told("sy001;sy101;w630;");
        for (int c = 0; c < 6; c++) {
            nothing.says(0, 1, c);
            nothing.says(0, 0, c);
        }
        due("spent(0), all", nothing.spent(0), 63);
        due("spent(2), nothing pleases", nothing.spent(2), 0);
    }

    private static void promise24Compared() {
        part = "24 compared";
        StileWantsCompliment x = told("sp001;sp001;sp001;sp001;w630;");
        due("compared(0)", x.compared(0), 0);
        due("compared(1)", x.compared(1), -9);
        x.says(0, 3, 5);
        x.says(0, 1, 4);
        due("compared(0), not the same", x.compared(0), 0);
        x.says(0, 1, 5);
        x.says(0, 3, 4);
        due("compared(0), a two once", x.compared(0), 1);
        due("compared(1)", x.compared(1), 13);
        x.days(7);
        x.says(0, 0, 5);
        due("compared(0), 7 days ago", x.compared(0), 3);
        due("compared(1)", x.compared(1), 1);
        x.days(1);
        due("compared(0), 8 days ago", x.compared(0), 0);
        due("compared(1)", x.compared(1), -9);
        x.says(0, 2, 5);
        due("compared(0)", x.compared(0), 1);
        due("compared(1)", x.compared(1), 2);
        due("compared(2)", x.compared(2), -2);
        due("compared(-1)", x.compared(-1), -2);
        refusals(x, 0, 2, 0, 0, 0);
    }

    private static void promise25Tour() {
        part = "25 tour";
        StileWantsCompliment x = told("sp001;sp110;sp012;sp023;sp031;w010;w007;");
        due("tour(0, 0)", x.tour(0, 0), 4);
        due("tour(0, 1)", x.tour(0, 1), 1);
        due("tour(1, 0)", x.tour(1, 0), 0);
        due("tour(1, 1)", x.tour(1, 1), 7);
        due("in mind: where he is", x.walker(0, 1), 0);
        due("in mind: count(3)", x.count(3), 0);
        due("in mind: count(5)", x.count(5), 0);
        x.learns(0, 1);
        due("tour(0, 0), back over 1 and no stile is left", x.tour(0, 0), 2);
        due("tour(0, 1)", x.tour(0, 1), 0);
        due("tour(2, 2)", x.tour(2, 2), -1);
        due("tour(-1, 0)", x.tour(-1, 0), -1);
        due("tour(0, 2)", x.tour(0, 2), -2);
        due("tour(0, -1)", x.tour(0, -1), -2);
        refusals(x, 2, 2, 0, 0, 0);
        StileWantsCompliment heard = told("sa501;sg512;sg523;w010;");
        due("what he says counts for the rest", heard.tour(0, 0), 1);
        heard.learns(0, 1);
        due("the least that pleases", heard.tour(0, 0), 2);
        heard.learns(0, 2);
        due("the next one", heard.tour(0, 0), 3);
        due("where he is", heard.tour(0, 1), 3);
        StileWantsCompliment all = told(times("sd501;", 9) + "w010;");
        due("nine stiles", all.tour(0, 0), 9);
        due("over and back", all.tour(0, 1), 1);
    }

    private static void promise26Meet() {
        part = "26 meet";
        StileWantsCompliment x = told("sp001;sp012;sp023;sp034;sp056;w010;w014;w014;");
        due("meet(0)", x.meet(0), 4);
        due("meet(1)", x.meet(1), 4);
        x.stands(2, 0);
        x.stands(1, 3);
        due("meet(0)", x.meet(0), 0);
        due("meet(1)", x.meet(1), 3);
        x.learns(2, 0);
        x.stands(2, 2);
        due("meet(0), one does not go", x.meet(0), 2);
        due("meet(1)", x.meet(1), 3);
        x.stands(2, 5);
        due("meet(0), nowhere", x.meet(0), -9);
        due("meet(1), nowhere", x.meet(1), -9);
        due("meet(2)", x.meet(2), -2);
        due("meet(-1)", x.meet(-1), -2);
        refusals(x, 0, 2, 0, 0, 0);
        StileWantsCompliment two = told("sp001;sp012;w012;w010;");
        due("of several the least", two.meet(0), 0);
        due("meet(1)", two.meet(1), 2);
        StileWantsCompliment none = told("sp001;");
        due("without walkers", none.meet(0), 0);
        due("without walkers", none.meet(1), 0);
    }

    private static void promise27Two() {
        part = "27 two";
        StileWantsCompliment x = told("sa501;sp501;sp512;w070;w030;w040;w000;w321;");
        due("two(0, 1, 0), the same", x.two(0, 1, 0), 10);
        due("two(1, 0, 0), the same", x.two(1, 0, 0), 10);
        due("two(0, 2, 0), others", x.two(0, 2, 0), 11);
        due("two(0, 3, 0)", x.two(0, 3, 0), 10);
        due("two(3, 0, 0)", x.two(3, 0, 0), 1);
        due("two(0, 1, 1), she likes neither", x.two(0, 1, 1), 0);
        x.learns(0, 5);
        x.learns(1, 5);
        due("two(0, 1, 1), a plain one", x.two(0, 1, 1), 11);
        due("in mind", x.count(5), 0);
        due("in mind", x.count(3), 0);
        due("two(0, 0, 0)", x.two(0, 0, 0), -1);
        due("two(0, 5, 0)", x.two(0, 5, 0), -1);
        due("two(5, 0, 0)", x.two(5, 0, 0), -1);
        due("two(-1, 0, 0)", x.two(-1, 0, 0), -1);
        due("two(0, -1, 0)", x.two(0, -1, 0), -1);
        due("two(0, 1, 3)", x.two(0, 1, 3), -1);
        due("two(0, 1, -1)", x.two(0, 1, -1), -1);
        due("two(0, 4, 0) in two fields", x.two(0, 4, 0), -3);
        due("two(0, 1, 2) not of it", x.two(0, 1, 2), -3);
        refusals(x, 7, 0, 2, 0, 0);
        x.says(0, 0, 0);
        x.stands(0, 0);
        due("what was said before is not said", x.two(0, 1, 0), 10);
        due("the one has nothing more", x.two(2, 1, 0), 11);
    }

    // ---- 28 to 33

    private static void fraction(StileWantsCompliment x, int walker, int field, int t, long above, long below) {
        due("hoarse(" + walker + ", " + field + ", " + t + ", 0)", x.hoarse(walker, field, t, 0), above);
        due("hoarse(" + walker + ", " + field + ", " + t + ", 1)", x.hoarse(walker, field, t, 1), below);
    }

    private static void promise28Hoarse() {
        part = "28 hoarse";
        StileWantsCompliment x = told("sp001;sp112;sa023;sp245;w070;w634;w480;");
        fraction(x, 0, 0, 5, 1, 1);
        fraction(x, 0, 1, 2, 1, 2);
        fraction(x, 0, 1, 20, 19, 20);
        fraction(x, 0, 2, 3, 4, 9);
        fraction(x, 0, 2, 20, 361, 400);
        fraction(x, 0, 3, 4, 9, 16);
        fraction(x, 0, 4, 3, 0, 1);
        fraction(x, 1, 5, 10, 9, 10);
        fraction(x, 2, 1, 7, 0, 1);
        StileWantsCompliment any = told("sy001;w630;w030;");
        fraction(any, 0, 1, 2, 63, 64);
        fraction(any, 0, 1, 20, 63999999, 64000000);
        fraction(any, 1, 1, 3, 8, 9);
        due("hoarse(3, 0, 1, 2)", x.hoarse(3, 0, 1, 2), LONG + 1);
        due("hoarse(-1, 0, 2, 0)", x.hoarse(-1, 0, 2, 0), LONG + 1);
        due("hoarse(0, 8, 2, 0)", x.hoarse(0, 8, 2, 0), LONG + 1);
        due("hoarse(0, -1, 2, 0)", x.hoarse(0, -1, 2, 0), LONG + 1);
        due("hoarse(0, 0, 1, 2)", x.hoarse(0, 0, 1, 2), LONG + 4);
        due("hoarse(0, 0, least, 0)", x.hoarse(0, 0, LEAST, 0), LONG + 4);
        due("hoarse(0, 0, 21, 2)", x.hoarse(0, 0, 21, 2), LONG + 6);
        due("hoarse(0, 0, 20, 2)", x.hoarse(0, 0, 20, 2), LONG + 2);
        due("hoarse(0, 0, 2, -1)", x.hoarse(0, 0, 2, -1), LONG + 2);
        refusals(x, 4, 2, 0, 2, 1);
        due("his store stays", x.walker(0, 0), 7);
    }

    private static void promise29Mean() {
        part = "29 mean";
        StileWantsCompliment x = new StileWantsCompliment();
        due("mean(0) of nobody", x.mean(0), 0);
        due("mean(1) of nobody", x.mean(1), 1);
        tell(x, "w000;");
        due("mean(0)", x.mean(0), 0);
        due("mean(1)", x.mean(1), 1);
        tell(x, "w630;");
        due("mean(0)", x.mean(0), 3);
        due("mean(1)", x.mean(1), 1);
        tell(x, "w010;");
        due("mean(0)", x.mean(0), 7);
        due("mean(1)", x.mean(1), 3);
        tell(x, "w100;w010;");
        due("mean(0)", x.mean(0), 2);
        due("mean(1)", x.mean(1), 1);
        due("mean(2)", x.mean(2), LONG + 2);
        due("mean(-1)", x.mean(-1), LONG + 2);
        refusals(x, 0, 2, 0, 0, 0);
    }

    private static void promise30WhatIs() {
        part = "30 whatIs";
        StileWantsCompliment x = told("sa101;sp612;w630;");
        due("whatIs(0, 0) by nothing", x.whatIs(0, 0), 63);
        due("whatIs(0, 1) by nothing", x.whatIs(0, 1), 1023);
        x.row(61);
        due("whatIs(0, 0)", x.whatIs(0, 0), 17);
        due("whatIs(0, 1)", x.whatIs(0, 1), 130);
        due("whatIs(1, 0)", x.whatIs(1, 0), 0);
        due("it stays", x.count(6), 1);
        x.clear();
        x.row(1);
        due("whatIs(1, 0)", x.whatIs(1, 0), 4);
        due("whatIs(1, 1)", x.whatIs(1, 1), 65);
        x.clear();
        x.says(0, 0, 0);
        x.row(62);
        x.row(62);
        x.row(62);
        due("young and deaf ones, three days", x.whatIs(0, 0), 40);
        x.row(63);
        due("then new again", x.whatIs(0, 0), 40);
        x.row(62);
        due("and not", x.whatIs(0, 0), 0);
        x.clear();
        x.row(64);
        due("no such bits", x.whatIs(0, 0), 0);
        due("no such bits", x.whatIs(0, 1), 0);
        due("whatIs(2, 2)", x.whatIs(2, 2), -1);
        due("whatIs(-1, 0)", x.whatIs(-1, 0), -1);
        due("whatIs(0, 2)", x.whatIs(0, 2), -2);
        due("whatIs(0, -1)", x.whatIs(0, -1), -2);
        refusals(x, 2, 2, 0, 0, 0);
        StileWantsCompliment deaf = told("sd401;w630;c002;");
        deaf.row(63);
        due("figures of a deaf one", deaf.whatIs(0, 1), 992);
        StileWantsCompliment all = told("sp201;w630;");
        for (int n = 0; n < 16; n++) {
            all.row(n < 15 ? 4 : 5);
        }
        due("the sixteenth, too", all.whatIs(0, 0), 0);
    }

    private static void promise31Row() {
        part = "31 row";
        StileWantsCompliment x = new StileWantsCompliment();
        due("row(-1)", x.row(-1), -4);
        due("row(100)", x.row(100), -6);
        due("row(0)", x.row(0), 1);
        due("row(99)", x.row(99), 2);
        for (int n = 3; n <= 16; n++) {
            due("row(7)", x.row(7), n);
        }
        due("row(7)", x.row(7), -6);
        due("row(-1)", x.row(-1), -4);
        due("row(least)", x.row(LEAST), -4);
        due("row(greatest)", x.row(GREATEST), -6);
        due("count(6)", x.count(6), 16);
        refusals(x, 0, 0, 0, 3, 3);
    }

    private static void promise32Judge() {
        part = "32 judge";
        StileWantsCompliment x = told("sp001;sp112;sa223;w010;w037;w000;");
        due("judge() of nothing", x.judge(), -9);
        x.row(2);
        x.row(3);
        x.row(0);
        due("judge(), all so", x.judge(), -9);
        due("count(6)", x.count(6), 0);
        x.row(2);
        x.row(2);
        x.row(1);
        due("judge(), 1 is not so", x.judge(), 1);
        due("count(6)", x.count(6), 0);
        x.row(1);
        due("judge(), 0 is not so", x.judge(), 0);
        x.row(2);
        x.row(3);
        x.row(0);
        x.row(0);
        due("judge(), nobody there", x.judge(), 3);
        x.row(2);
        due("judge(), some of them", x.judge(), -9);
        refusals(x, 0, 0, 0, 0, 0);
    }

    private static void promise33Clear() {
        part = "33 clear";
        StileWantsCompliment x = told("w000;");
        due("clear()", x.clear(), 0);
        x.row(5);
        x.row(6);
        due("clear()", x.clear(), 2);
        due("clear()", x.clear(), 0);
        due("count(6)", x.count(6), 0);
        due("judge()", x.judge(), -9);
        due("row(0)", x.row(0), 1);
        due("judge()", x.judge(), -9);
    }

    // ---- 34 to 37

    private static void promise34Lots() {
        part = "34 lots";
        StileWantsCompliment x = told("sd501;w630;");
        due("each time over", x.lots(1, 0, 0), 12);
        due("twenty weeks", x.lots(20, -5, 0), 240);
        due("open each week", x.lots(20, 77, 1), 20);
        x.learns(0, 0);
        int seed = 123456789;
        int over = 0;
        for (int time = 0; time < 36; time++) {
            seed = (seed * 1664525 + 1013904223) * 1664525 + 1013904223;
            seed = seed * 1664525 + 1013904223;
            over += ((seed & 0x7fffffff) / 256) % 6 != 0 ? 1 : 0;
        }
        due("lots(3, 123456789, 0)", x.lots(3, 123456789, 0), over);
        due("in mind: count(2)", x.count(2), 0);
        due("in mind: count(3)", x.count(3), 0);
        due("in mind: count(5)", x.count(5), 0);
        due("the same again", x.lots(3, 123456789, 0), over);
        x.turn(0, 0, 0);
        x.learns(0, 0);
        due("each week from now", x.lots(20, 3, 1), 20);
        StileWantsCompliment end = told("sa501;w010;c000;d01;");
        due("days went by at the end", end.lots(2, 9, 1), openAtEnd(9));
        due("lots(0, 0, 2)", x.lots(0, 0, 2), -4);
        due("lots(least, 0, 0)", x.lots(LEAST, 0, 0), -4);
        due("lots(21, 0, 2)", x.lots(21, 0, 2), -6);
        due("lots(1, 0, 2)", x.lots(1, 0, 2), -2);
        due("lots(1, 0, -1)", x.lots(1, 0, -1), -2);
        refusals(x, 0, 2, 0, 2, 1);
        StileWantsCompliment nobody = told("sa501;");
        due("lots without walkers", nobody.lots(1, 0, 0), -3);
        due("what ahead of it", nobody.lots(1, 0, 2), -2);
        StileWantsCompliment noStiles = told("w630;");
        due("lots without stiles", noStiles.lots(1, 0, 1), -3);
    }

    /** For one aunt of figure 5 and one walker with compliment 0, said a day ago: two weeks' open stiles. */
    private static int openAtEnd(int z) {
        int seed = z;
        int open = 0;
        for (int week = 0; week < 2; week++) {
            int said = -1;
            for (int day = 0; day < 12; day++) {
                seed = (seed * 1664525 + 1013904223) * 1664525 + 1013904223;
                seed = seed * 1664525 + 1013904223;
                said = ((seed & 0x7fffffff) / 256) % 6 == 0 ? day : said;
            }
            open += 12 - said >= 7 ? 1 : 0;
        }
        return open;
    }

    private static void promise35And36ImageAndOn() {
        part = "35 image, 36 on";
        StileWantsCompliment x = told("sa501;w030;d04;c001;");
        due("on()", x.on(), -3);
        due("image()", x.image(), 4);
        tell(x, "sy112;w637;d20;k00;f0;");
        x.turn(0, 5, 7);
        x.stands(0, 6);
        x.row(9);
        x.letter('s');
        x.walker(9, 9);
        due("count(2)", x.count(2), 24);
        due("on()", x.on(), 4);
        due("count(0)", x.count(0), 1);
        due("count(1)", x.count(1), 1);
        due("count(2)", x.count(2), 4);
        due("count(3)", x.count(3), 1);
        due("count(4)", x.count(4), 2);
        due("count(5)", x.count(5), 1);
        due("the row is not in it", x.count(6), 1);
        due("letters are not in it", x.count(7), 1);
        refusals(x, 1, 0, 1, 0, 0);
        due("stile(0, 0)", x.stile(0, 0), 0);
        due("stile(0, 1)", x.stile(0, 1), 5);
        due("walker(0, 0)", x.walker(0, 0), 3);
        due("walker(0, 1)", x.walker(0, 1), 1);
        due("last(0, 1)", x.last(0, 1), 0);
        due("stile(1, 0)", x.stile(1, 0), -1);
        due("walker(1, 0)", x.walker(1, 0), -1);
        due("on() again", x.on(), 4);
        x.days(3);
        due("a later image()", x.image(), 7);
        x.days(3);
        due("on()", x.on(), 7);
        x.says(0, 0, 0);
        due("count(3)", x.count(3), 2);
        x.on();
        due("count(3)", x.count(3), 1);
        due("walker(0, 1)", x.walker(0, 1), 1);
        x.county();
        due("a stile more", tell(x, "sp134;"), 1);
        due("stile(1, 2)", x.stile(1, 2), 3);
        StileWantsCompliment empty = new StileWantsCompliment();
        due("image() of nothing", empty.image(), 0);
        tell(empty, "sa001;w000;d11;");
        due("on()", empty.on(), 0);
        due("count(0)", empty.count(0), 0);
        due("count(1)", empty.count(1), 0);
    }

    private static void promise37Count() {
        part = "37 count";
        StileWantsCompliment x = told("sp001;sp112;sp223;w070;w637;d12;c000;c011;c010;c010;");
        x.row(1);
        x.row(2);
        x.row(3);
        x.letter('d');
        int[] want = {3, 2, 12, 2, 9, 3, 3, 1, -9, -9, -9, 0, 0, 0, 0, 0, 0, -9};
        for (int what = 0; what < want.length; what++) {
            due("count(" + what + ")", x.count(what), want[what]);
        }
        due("count(-1)", x.count(-1), -9);
        due("count(least)", x.count(LEAST), -9);
        due("count(greatest)", x.count(GREATEST), -9);
        due("-9 is no refusal", x.when(0, 7), -9);
        refusals(x, 0, 0, 0, 0, 0);
        x.says(0, 0, 6);
        x.spent(9);
        x.spent(9);
        x.on();
        x.on();
        x.on();
        x.days(0);
        x.row(100);
        x.row(100);
        refusals(x, 1, 2, 3, 1, 2);
        due("said at two stiles, it is two", told("sp001;sp001;w630;c000;c010;c010;").count(5), 2);
    }

    /** What was said six days ago pleases tomorrow: every answer is one of today. */
    private static void todayAndNotTomorrow() {
        part = "today";
        StileWantsCompliment x = told("sa501;w010;c000;w010;d06;");
        x.stands(1, 1);
        due("stile(0, 4)", x.stile(0, 4), 30);
        due("stile(0, 5)", x.stile(0, 5), 0);
        due("walker(0, 2)", x.walker(0, 2), 0);
        due("walker(0, 3)", x.walker(0, 3), 2);
        due("pleasesThen(0, 1)", x.pleasesThen(0, 1), 31);
        due("openThen(0, 1)", x.openThen(0, 1), 1);
        due("way(0, 0, 0)", x.way(0, 0, 0), -9);
        due("way(0, 0, 1)", x.way(0, 0, 1), -9);
        due("shy()", x.shy(), 3);
        due("when(0, 0)", x.when(0, 0), 1);
        due("store(0, 0)", x.store(0, 0), 2);
        due("learn(0)", x.learn(0), 1);
        due("gate(0)", x.gate(0), 0);
        due("needed(0, 0)", x.needed(0, 0), -9);
        due("say(0, 0)", x.say(0, 0), -9);
        due("spent(0)", x.spent(0), 33);
        due("tour(0, 0)", x.tour(0, 0), 0);
        due("two(0, 1, 0)", x.two(0, 1, 0), 0);
        due("hoarse(0, 0, 2, 0)", x.hoarse(0, 0, 2, 0), 0);
        x.row(30);
        due("whatIs(0, 0)", x.whatIs(0, 0), 17);
        x.clear();
        x.row(0);
        due("judge()", x.judge(), -9);
        x.stands(1, 0);
        due("meet(0)", x.meet(0), -9);
        due("says(0, 0, 0)", x.says(0, 0, 0), 0);
        StileWantsCompliment behind = told("sa501;sg501;w030;c011;d06;");
        due("open just behind it, not a day on", behind.say(0, 0), 1);
    }

    /** A county of the mind, left behind by lots, is not the one that is asked. */
    private static void whatWasInMindIsGone() {
        part = "in mind";
        String text = "sa501;sy012;w310;w310;w030;";
        String before = answers(told(text));
        for (int z = 0; z < 5; z++) {
            StileWantsCompliment x = told(text);
            x.lots(1, z, 0);
            due("the same answers behind lots with " + z, before.equals(answers(x)) ? 1 : 0, 1);
        }
        StileWantsCompliment toured = told(text);
        toured.tour(1, 0);
        due("the same answers behind tour", before.equals(answers(toured)) ? 1 : 0, 1);
        StileWantsCompliment faulty = told(text);
        due("a fault", tell(faulty, "w012;c000;d09;w638;"), -2014);
        due("the same answers behind a fault", before.equals(answers(faulty)) ? 1 : 0, 1);
    }

    private static String answers(StileWantsCompliment x) {
        StringBuilder all = new StringBuilder();
        for (int i = 0; i <= 5; i++) {
            all.append(x.stile(0, i)).append(' ').append(x.stile(1, i)).append(' ').append(x.count(i)).append(' ');
            all.append(x.last(0, i)).append(' ').append(x.pleasesThen(1, i)).append(' ');
        }
        for (int w = 0; w < 3; w++) {
            for (int i = 0; i < 4; i++) {
                all.append(x.walker(w, i)).append(' ').append(x.way(w, i, 0)).append(' ');
                all.append(x.when(w, i)).append(' ').append(x.store(w, i)).append(' ');
                all.append(x.needed(w, i)).append(' ').append(x.hoarse(w, i, 3, 0)).append(' ');
            }
            all.append(x.learn(w)).append(' ').append(x.gate(w)).append(' ').append(x.openThen(w, 2)).append(' ');
        }
        all.append(x.shy()).append(' ').append(x.spent(0)).append(' ').append(x.compared(0)).append(' ');
        return all.append(x.meet(0)).append(' ').append(x.mean(0)).append(' ').append(x.mean(1)).toString();
    }

    public static void main(String[] args) {
        promise1NewObject();
        promise2Letter();
        promise3CountyFirstKind();
        promise3CountySecondKind();
        promise3CountyWithoutFault();
        promise4Stile();
        promise5Walker();
        promise6Last();
        promise7Says();
        promise8Learns();
        promise9Forgets();
        promise10Stands();
        promise11Turn();
        promise12Days();
        promise13PleasesThenByKind();
        promise13PleasesThen();
        promise14OpenThen();
        promise15Way();
        promise16Shy();
        promise17When();
        promise18Store();
        promise19Learn();
        promise20Gate();
        promise21Needed();
        promise22Say();
        promise23Spent();
        promise24Compared();
        promise25Tour();
        promise26Meet();
        promise27Two();
        promise28Hoarse();
        promise29Mean();
        promise30WhatIs();
        promise31Row();
        promise32Judge();
        promise33Clear();
        promise34Lots();
        promise35And36ImageAndOn();
        promise37Count();
        todayAndNotTomorrow();
        whatWasInMindIsGone();
        System.out.println(wrong == 0 ? "all promises hold" : wrong + " answers are not as due");
        if (wrong != 0) {
            System.exit(1);
        }
    }
}
