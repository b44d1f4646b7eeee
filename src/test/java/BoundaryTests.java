import java.math.BigInteger;

/**
 * One function for each sentence of the document that names a boundary: too small, too large, empty, full,
 * a wrap-around, a refused call. The sentence stands at its head. No object here gets more than 512 calls,
 * but for the one that is meant to get just as many.
 */
public final class BoundaryTests {
    private static final int LEAST = Integer.MIN_VALUE;
    private static final int GREATEST = Integer.MAX_VALUE;
    private static final int[] UNDER = {-1, -2, -9, LEAST};
    private static final long LONG = 4000000000000000000L;

    /** Six stiles, one of each kind, two walkers, something said, three letters and two numbers of a row. */
    private static final String COUNTY = "sa001;ss112;sp223;sy334;sg445;sd556;w630;w211;k10;c001;d03;c011;";

    private static int wrong = 0;
    private static String sentence = "";

    private interface Call {
        long on(StileWantsCompliment x);
    }

    // ---- what the tests are made with

    private static void words(String words) {
        sentence = words;
    }

    private static void due(String call, long got, long want) {
        if (got != want) {
            wrong++;
            System.out.println("\"" + sentence + "\": " + call + " answered " + got + ", due is " + want);
        }
    }

    private static int tell(StileWantsCompliment x, String text) {
        for (int i = 0; i < text.length(); i++) {
            x.letter(text.charAt(i));
        }
        return x.county();
    }

    private static StileWantsCompliment told(String text) {
        StileWantsCompliment x = new StileWantsCompliment();
        int statements = 0;
        for (int i = 0; i < text.length(); i++) {
            statements += text.charAt(i) == ';' ? 1 : 0;
        }
        due("county of " + text, tell(x, text), statements);
        return x;
    }

    private static String times(String text, int n) {
        StringBuilder all = new StringBuilder();
        for (int i = 0; i < n; i++) {
            all.append(text);
        }
        return all.toString();
    }

    private static StileWantsCompliment onDay999(String text) {
        StileWantsCompliment x = told(times("d60;", 16) + "d39;");
        tell(x, text);
        due("count(2)", x.count(2), 999);
        return x;
    }

    /** The county above with letters, a row and an image of an earlier time. */
    private static StileWantsCompliment full() {
        StileWantsCompliment x = told(COUNTY);
        x.image();
        x.says(0, 0, 2);
        x.row(63);
        x.row(1);
        x.letter('s');
        x.letter('a');
        x.letter(0);
        return x;
    }

    /** All that can be asked of an object, but refusals. */
    private static String state(StileWantsCompliment x) {
        StringBuilder all = new StringBuilder();
        for (int what = 0; what <= 7; what++) {
            all.append(x.count(what)).append(' ');
        }
        for (int stile = 0; stile < x.count(0); stile++) {
            for (int i = 0; i < 6; i++) {
                all.append(x.stile(stile, i)).append(' ').append(x.last(stile, i)).append(' ');
            }
            all.append(x.whatIs(stile, 0)).append(' ');
        }
        for (int walker = 0; walker < x.count(1); walker++) {
            for (int i = 0; i < 4; i++) {
                all.append(x.walker(walker, i)).append(' ');
            }
        }
        all.append("; ").append(x.judge()).append(' ').append(tell(x, "01;"));
        all.append("; ").append(x.on()).append(' ').append(x.walker(0, 1)).append(' ').append(x.count(5));
        return all.append(' ').append(x.count(0)).toString();
    }

    private static void refusalsOf(StileWantsCompliment x, int number, int times) {
        for (int what = 11; what <= 16; what++) {
            due("count(" + what + ")", x.count(what), what == 10 - number ? times : 0);
        }
    }

    /** The call is refused, it alone is counted, and all else is as without it. */
    private static void refused(String name, Call call, int number) {
        StileWantsCompliment x = full();
        due(name, call.on(x), number);
        refusalsOf(x, number, 1);
        due(name + " again", call.on(x), number);
        refusalsOf(x, number, 2);
        due(name + " changes nothing", state(x).equals(state(full())) ? 1 : 0, 1);
    }

    private static void refusedLong(String name, Call call, int number) {
        refused(name, x -> number + call.on(x) - (LONG - number), number);
    }

    // ---- nothing at all

    private static void aNewObjectHasNobody() {
        words("No STILES, nobody, DAY 0.");
        StileWantsCompliment x = new StileWantsCompliment();
        long[] nobody = {x.stile(0, 0), x.walker(0, 0), x.last(0, 0), x.says(0, 0, 0), x.learns(0, 0), x.forgets(0),
            x.stands(0, 0), x.turn(0, 0, 0), x.pleasesThen(0, 0), x.openThen(0, 0), x.way(0, 0, 0), x.when(0, 0),
            x.store(0, 0), x.learn(0), x.gate(0), x.needed(0, 0), x.say(0, 0), x.tour(0, 0), x.two(0, 1, 0),
            x.whatIs(0, 0), LONG - x.hoarse(0, 0, 2, 0)};
        for (int i = 0; i < nobody.length; i++) {
            due("call " + i + " of nobody", nobody[i], -1);
        }
        refusalsOf(x, -1, nobody.length);
        for (int what = 0; what <= 7; what++) {
            due("count(" + what + ")", x.count(what), 0);
        }
    }

    private static void aNewObjectIsEmpty() {
        words("No STILES, nobody, DAY 0.");
        StileWantsCompliment x = new StileWantsCompliment();
        due("shy()", x.shy(), 0);
        due("spent(0)", x.spent(0), 63);
        due("spent(1)", x.spent(1), 0);
        due("spent(2)", x.spent(2), -9);
        due("compared(0)", x.compared(0), 0);
        due("compared(1)", x.compared(1), -9);
        due("meet(0)", x.meet(0), 0);
        due("meet(1)", x.meet(1), 0);
        due("mean(0)", x.mean(0), 0);
        due("mean(1)", x.mean(1), 1);
        due("judge()", x.judge(), -9);
        due("clear()", x.clear(), 0);
        due("county()", x.county(), -1000);
        refusalsOf(x, 0, 0);
        due("on()", x.on(), -3);
        due("lots(1, 0, 0)", x.lots(1, 0, 0), -3);
        refusalsOf(x, -3, 2);
        due("image()", x.image(), 0);
        due("on()", x.on(), 0);
        due("days(1)", x.days(1), 1);
        due("row(0)", x.row(0), 1);
        due("clear()", x.clear(), 1);
        due("letter(0)", x.letter(0), 1);
    }

    // ---- I. the numbers of things

    private static void fieldsZeroToSeven() {
        words("FIELDS 0 .. 7 (8)");
        StileWantsCompliment x = told("sp007;sp070;w017;w010;");
        due("stile(0, 3)", x.stile(0, 3), 7);
        due("stile(1, 2)", x.stile(1, 2), 7);
        due("walker(0, 3)", x.walker(0, 3), 129);
        due("stands(0, 0)", x.stands(0, 0), 7);
        due("stands(0, 7)", x.stands(0, 7), 0);
        due("way(1, 7, 0)", x.way(1, 7, 0), 1);
        due("when(1, 7)", x.when(1, 7), 0);
        due("store(1, 7)", x.store(1, 7), 1);
        due("hoarse(1, 7, 2, 1)", x.hoarse(1, 7, 2, 1), 2);
        refusalsOf(x, -1, 0);
    }

    private static void complimentsZeroToFive() {
        words("COMPLIMENTS 0 .. 5 (6)");
        StileWantsCompliment x = told("sp001;sp501;w630;c005;c000;k05;k05;");
        due("last(0, 5)", x.last(0, 5), 0);
        due("last(0, 0)", x.last(0, 0), 0);
        due("says(0, 1, 5)", x.says(0, 1, 5), 1);
        due("says(0, 0, 0)", x.says(0, 0, 0), 1);
        due("learns(0, 5)", x.learns(0, 5), 31);
        due("learns(0, 0)", x.learns(0, 0), 30);
        refusalsOf(x, -1, 0);
    }

    private static void stilesNineAtMost() {
        words("STILES 0 .. as they come (9 at most)");
        StileWantsCompliment x = told(times("sd501;", 9) + "w010;");
        due("count(0)", x.count(0), 9);
        due("stile(8, 1)", x.stile(8, 1), 5);
        due("stile(9, 1)", x.stile(9, 1), -1);
        due("a tenth", tell(x, "sd501;"), -2000);
        due("walker(0, 2)", x.walker(0, 2), 511);
        due("says(0, 8, 0)", x.says(0, 8, 0), 1);
        due("last(8, 0)", x.last(8, 0), 0);
        due("forgets(8)", x.forgets(8), 1);
        due("turn(8, 2, 5)", x.turn(8, 2, 5), 55);
        due("walker(0, 2)", x.walker(0, 2), 255);
        due("gate(0), all open ones lead there", x.gate(0), -9);
        StileWantsCompliment inOneText = new StileWantsCompliment();
        due("ten in one text", tell(inOneText, times("sy670;", 10)), -2054);
        due("none of them", inOneText.count(0), 0);
        StileWantsCompliment none = told("w000;");
        due("stile(0, 0) of none", none.stile(0, 0), -1);
    }

    private static void figureZeroToNine() {
        words("FIGURE (0 .. 9)");
        StileWantsCompliment x = told("sp001;sp901;");
        due("stile(0, 1)", x.stile(0, 1), 0);
        due("stile(1, 1)", x.stile(1, 1), 9);
        due("turn(0, 2, 9)", x.turn(0, 2, 9), 20);
        due("turn(1, 2, 0)", x.turn(1, 2, 0), 29);
        due("stile(0, 4)", x.stile(0, 4), 8);
        due("stile(1, 4)", x.stile(1, 4), 1);
    }

    private static void walkersFiveAtMost() {
        words("WALKERS 0 .. as they come (5 at most)");
        StileWantsCompliment x = told("w010;w021;w042;w083;w164;sp045;");
        due("count(1)", x.count(1), 5);
        due("walker(4, 0)", x.walker(4, 0), 16);
        due("walker(4, 1)", x.walker(4, 1), 4);
        due("walker(5, 0)", x.walker(5, 0), -1);
        due("a sixth", tell(x, "w000;"), -2000);
        due("learns(4, 0)", x.learns(4, 0), 17);
        due("says(4, 0, 0)", x.says(4, 0, 0), 1);
        due("stands(4, 4)", x.stands(4, 4), 5);
        due("shy()", x.shy(), 15);
        due("stile(0, 5)", x.stile(0, 5), 2);
        StileWantsCompliment inOneText = new StileWantsCompliment();
        due("six in one text", tell(inOneText, times("w637;", 6)), -2025);
        due("none of them", inOneText.count(1), 0);
        StileWantsCompliment none = told("sp001;");
        due("walker(0, 0) of none", none.walker(0, 0), -1);
    }

    private static void storeZeroToSixtyThree() {
        words("a STORE of COMPLIMENTS (bits, 0 .. 63)");
        for (int store = 0; store <= 99; store++) {
            StileWantsCompliment x = new StileWantsCompliment();
            String text = "w" + store / 10 + store % 10 + "0;";
            due("county of " + text, tell(x, text), store <= 63 ? 1 : -2000);
            due("walker(0, 0)", x.walker(0, 0), store <= 63 ? store : -1);
            due("count(4)", x.count(4), store <= 63 ? Integer.bitCount(store) : 0);
        }
    }

    private static void overFromZero() {
        words("OVER (0 .. 9999; 0 at first: how often somebody got over)");
        StileWantsCompliment x = told("sd501;w630;");
        due("count(3)", x.count(3), 0);
        for (int n = 1; n <= 480; n++) {
            due("says " + n, x.says(0, 0, n % 6), 1);
        }
        due("count(3)", x.count(3), 480);
        due("one of lots is none", x.lots(20, 1, 0), 240);
        due("count(3)", x.count(3), 480);
    }

    private static void dayZeroToTheLast() {
        words("DAY (0 .. 999; 0 at first)");
        StileWantsCompliment x = new StileWantsCompliment();
        due("count(2)", x.count(2), 0);
        due("to 960", tell(x, times("d60;", 16)), 16);
        due("days(40)", x.days(40), -6);
        due("days(39)", x.days(39), 999);
        due("days(1)", x.days(1), -6);
        due("days(60)", x.days(60), -6);
        due("d01;", tell(x, "d01;"), -2000);
        due("count(2)", x.count(2), 999);
        due("image()", x.image(), 999);
    }

    // ---- the letters of a county

    private static void lettersNinetySixAtMost() {
        words("told in letters, one by one (96 at most)");
        StileWantsCompliment x = new StileWantsCompliment();
        String text = times("d01;", 24);
        for (int n = 1; n <= 96; n++) {
            due("letter " + n, x.letter(text.charAt(n - 1)), n);
        }
        due("a 97th", x.letter('d'), -6);
        due("count(7)", x.count(7), 96);
        due("county()", x.county(), 24);
        due("count(7)", x.count(7), 0);
        for (int n = 1; n <= 96; n++) {
            due("letter " + n + " again", x.letter(';'), n);
        }
        due("a 97th again", x.letter(';'), -6);
        due("county()", x.county(), -1000);
        due("count(2)", x.count(2), 24);
    }

    private static void eachLetterOfEachStatement() {
        words("kind 1 the place of the first letter with which no COUNTY can go on (the end, if something lacks)");
        String[] shapes = {"sa001;", "w010;", "c001;", "k01;", "f0;", "d07;"};
        String ahead = "sa001;w630;";
        for (String shape : shapes) {
            for (int place = 0; place < shape.length(); place++) {
                String begun = ahead + shape.substring(0, place);
                int there = -1000 - begun.length();
                if (place > 0) {
                    fault(begun, there);
                }
                for (char letter : wrongLetters(shape, place)) {
                    fault(begun + letter, there);
                    fault(begun + letter + shape.substring(place + 1), there);
                }
            }
        }
        fault("sa001;w63", -1009);
        fault(times("d01;", 23) + "d01:", -1095);
        fault(times("d01;", 23) + "sa00", -1096);
    }

    private static char[] wrongLetters(String shape, int place) {
        if (place == 0) {
            return ";0aSWCKFD prtv\u0000\u00ff".toCharArray();
        }
        if (shape.charAt(place) == ';') {
            return ":<s09 \u0000\u00ff".toCharArray();
        }
        return (place == 1 && shape.charAt(0) == 's' ? "bAwckf07;\u0000\u00ff" : "/:;-+ as\u0000\u00ff").toCharArray();
    }

    private static void fault(String text, int want) {
        StileWantsCompliment x = new StileWantsCompliment();
        due("county of '" + text + "'", tell(x, text), want);
        due("count(0) behind '" + text + "'", x.count(0), 0);
        due("count(1) behind '" + text + "'", x.count(1), 0);
        due("count(2) behind '" + text + "'", x.count(2), 0);
        due("count(7) behind '" + text + "'", x.count(7), 0);
        refusalsOf(x, 0, 0);
    }

    private static void atLeastOneStatement() {
        words("At least one STATEMENT");
        StileWantsCompliment x = told("d05;");
        due("county() of no letters", x.county(), -1000);
        due("and again", x.county(), -1000);
        due("count(2)", x.count(2), 5);
        due("one is enough", tell(x, "d01;"), 1);
        refusalsOf(x, 0, 0);
    }

    private static void kindOneAheadOfKindTwo() {
        words("FAULT: kind 1 ..; else kind 2");
        fault("sa000;w640;x", -1011);
        fault("d00;d", -1005);
        fault("c999;k99;f9;;", -1012);
        fault("d00;d61;", -2000);
    }

    private static void everyStileTold() {
        words("a number out of range, one FIELD twice; FIELDS 8, 9 are of kind 2");
        for (int fields = 0; fields < 100; fields++) {
            int one = fields / 10;
            int other = fields % 10;
            StileWantsCompliment x = new StileWantsCompliment();
            boolean can = one < 8 && other < 8 && one != other;
            due("stile between " + one + " and " + other, tell(x, "sd9" + one + other + ";"), can ? 1 : -2000);
            due("count(0)", x.count(0), can ? 1 : 0);
        }
    }

    private static void everyFieldOfAWalker() {
        words("\"w\" a STORE (2 digits), a FIELD (a digit)");
        for (int field = 0; field < 10; field++) {
            StileWantsCompliment x = new StileWantsCompliment();
            due("walker in " + field, tell(x, "w63" + field + ";"), field < 8 ? 1 : -2000);
            due("walker(0, 1)", x.walker(0, 1), field < 8 ? field : -1);
        }
    }

    private static void everySayingTold() {
        words("\"c\" a WALKER, a STILE, a COMPLIMENT: no such STILE, WALKER so far, SAYING that can not be");
        for (int digits = 0; digits < 1000; digits++) {
            int walker = digits / 100;
            int stile = digits / 10 % 10;
            int compliment = digits % 10;
            StileWantsCompliment x = told("sp001;sp012;sp023;w310;w631;");
            boolean there = walker == 0 ? stile == 0 && compliment < 5
                    : walker == 1 && stile < 2 && compliment < 6;
            due("c" + digits, tell(x, "c" + walker + stile + compliment + ";"), there ? 1 : -2000);
            due("count(5)", x.count(5), there ? 1 : 0);
        }
    }

    private static void everyLearningTold() {
        words("\"k\" a WALKER, a COMPLIMENT: it is in his STORE, or, told again, not");
        for (int digits = 0; digits < 100; digits++) {
            int walker = digits / 10;
            int compliment = digits % 10;
            StileWantsCompliment x = told("w000;w630;");
            boolean can = walker < 2 && compliment < 6;
            due("k" + digits, tell(x, "k" + walker + compliment + ";"), can ? 1 : -2000);
            due("count(4)", x.count(4), can ? walker == 0 ? 7 : 5 : 6);
        }
        StileWantsCompliment x = told("w000;k05;k05;k05;");
        due("three times is once", x.walker(0, 0), 32);
    }

    private static void everyForgettingTold() {
        words("\"f\" a STILE (a digit): nothing was ever SAID there");
        for (int stile = 0; stile < 10; stile++) {
            StileWantsCompliment x = told("sp001;sp001;w630;c001;c012;c013;");
            due("f" + stile, tell(x, "f" + stile + ";"), stile < 2 ? 1 : -2000);
            due("count(5)", x.count(5), stile == 0 ? 2 : stile == 1 ? 1 : 3);
        }
    }

    private static void everyNumberOfDaysTold() {
        words("\"d\" DAYS (2 digits, 1 .. 60); 0 DAYS are of kind 2");
        for (int days = 0; days < 100; days++) {
            StileWantsCompliment x = new StileWantsCompliment();
            boolean can = days >= 1 && days <= 60;
            due("d" + days, tell(x, "d" + days / 10 + days % 10 + ";"), can ? 1 : -2000);
            due("count(2)", x.count(2), can ? days : 0);
        }
    }

    private static void dayAboveTold() {
        words("DAY above 999");
        StileWantsCompliment x = told(times("d60;", 16));
        due("d40;", tell(x, "d40;"), -2000);
        due("d38;d02;", tell(x, "d38;d02;"), -2004);
        due("count(2)", x.count(2), 960);
        due("d39;", tell(x, "d39;"), 1);
        due("d01;", tell(x, "d01;"), -2000);
        due("count(2)", x.count(2), 999);
    }

    private static void behindAllAheadOfIt() {
        words("the first STATEMENT that, behind all ahead of it in the text, is not as it must be");
        due("two faults, the first", tell(new StileWantsCompliment(), "w000;w640;sa000;"), -2005);
        due("the stile comes later", tell(new StileWantsCompliment(), "w630;c001;sa001;"), -2005);
        due("the walker comes later", tell(new StileWantsCompliment(), "sa001;c001;w630;"), -2006);
        due("he went over", tell(new StileWantsCompliment(), "sa001;sa012;w630;c001;c012;c011;"), 6);
        due("he did not go over", tell(new StileWantsCompliment(), "sa001;sa012;w630;c000;c012;"), -2022);
        due("learned ahead", tell(new StileWantsCompliment(), "sa001;w000;k01;c001;"), 4);
        due("not in store any more", tell(new StileWantsCompliment(), "sa001;w020;k01;c001;"), -2015);
        StileWantsCompliment x = told("sa001;w630;");
        due("of what was before the text", tell(x, "c001;"), 1);
        due("and it is counted with", tell(x, "sa012;c012;w000;k10;f1;"), 5);
    }

    private static void noRoomForMore() {
        words("no room for more");
        StileWantsCompliment x = told(times("sp001;", 8) + times("w000;", 4));
        due("one stile, one walker", tell(x, "sp001;w000;"), 2);
        due("then a stile more", tell(x, "d01;sp001;"), -2004);
        due("then a walker more", tell(x, "d01;w000;"), -2004);
        due("count(2)", x.count(2), 0);
        StileWantsCompliment over = told(times("sp001;", 8));
        due("the second of two", tell(over, "sp001;sp001;"), -2006);
        due("count(0)", over.count(0), 8);
    }

    private static void withOneNothing() {
        words("Without FAULT all of it comes, with one nothing");
        String[] faulty = {"sp670;w000;k01;f0;d60;c002;w640;", "sp670;w000;k01;f0;d60;c002;x", "d60;d", "f0;f9;"};
        for (String text : faulty) {
            StileWantsCompliment x = full();
            x.county();
            due("a fault in " + text, tell(x, text) < -999 ? 1 : 0, 1);
            StileWantsCompliment y = full();
            y.county();
            due("nothing comes of " + text, state(x).equals(state(y)) ? 1 : 0, 1);
            refusalsOf(x, 0, 0);
        }
    }

    private static void lettersAreNoMore() {
        words("The letters become a COUNTY, and are no more (with a FAULT neither)");
        String[] texts = {"d01;", "d", "d00;", "x"};
        for (String text : texts) {
            StileWantsCompliment x = new StileWantsCompliment();
            tell(x, text);
            due("count(7) behind " + text, x.count(7), 0);
            due("county() behind " + text, x.county(), -1000);
            due("letter(0) behind " + text, x.letter(0), 1);
        }
    }

    // ---- what pleases

    /** Answers what pleases at a stile of this kind, when all of the store was said there so many days ago. */
    private static int pleasingDaysAfter(int kind, int figure, int days) {
        StileWantsCompliment x = told("sp001;w630;d60;");
        for (int compliment = 0; compliment < 6; compliment++) {
            x.says(0, 0, compliment);
        }
        x.turn(0, kind, figure);
        int thought = x.pleasesThen(0, days);
        if (days > 0) {
            x.days(days);
        }
        due("stile(0, 4) of kind " + kind + " and figure " + figure + " behind " + days, x.stile(0, 4), thought);
        return thought;
    }

    private static void newIsSevenDays() {
        words("NEW: .. never SAID there, or 7 DAYS ago or more");
        due("never", told("sa501;").stile(0, 4), 31);
        due("today", pleasingDaysAfter(0, 5, 0), 0);
        due("1 day ago", pleasingDaysAfter(0, 5, 1), 0);
        due("6 days ago", pleasingDaysAfter(0, 5, 6), 0);
        due("7 days ago", pleasingDaysAfter(0, 5, 7), 31);
        due("8 days ago", pleasingDaysAfter(0, 5, 8), 31);
        due("60 days ago", pleasingDaysAfter(0, 5, 60), 31);
    }

    private static void figureModuloSix() {
        words("c is not FIGURE modulo 6");
        for (int figure = 0; figure <= 9; figure++) {
            StileWantsCompliment x = told("sa" + figure + "01;sp" + figure + "01;ss" + figure + "01;");
            due("an aunt of " + figure, x.stile(0, 4), 63 - (1 << figure % 6));
            due("a plain one of " + figure, x.stile(1, 4), 1 << figure % 6);
            due("a sour one of " + figure, x.stile(2, 4), (figure % 2 == 0 ? 21 : 42) - (1 << figure % 6));
        }
    }

    private static void sourOnesAsAunts() {
        words("s SOUR under AUNT: so, and c and FIGURE are both odd or both even");
        due("6 days ago, even", pleasingDaysAfter(1, 8, 6), 0);
        due("7 days ago, even", pleasingDaysAfter(1, 8, 7), 17);
        due("6 days ago, odd", pleasingDaysAfter(1, 7, 6), 0);
        due("7 days ago, odd", pleasingDaysAfter(1, 7, 7), 40);
    }

    private static void plainOnesNewOrNot() {
        words("p PLAIN under AUNT: c is FIGURE modulo 6, new or not");
        due("today", pleasingDaysAfter(2, 9, 0), 8);
        due("6 days ago", pleasingDaysAfter(2, 0, 6), 1);
        due("7 days ago", pleasingDaysAfter(2, 5, 7), 32);
    }

    private static void youngOnesThreeDays() {
        words("y YOUNG under AUNT: never SAID there, or 3 DAYS ago or more (any c)");
        due("never", told("sy301;").stile(0, 4), 63);
        due("today", pleasingDaysAfter(3, 9, 0), 0);
        due("2 days ago", pleasingDaysAfter(3, 9, 2), 0);
        due("3 days ago", pleasingDaysAfter(3, 9, 3), 63);
        due("4 days ago", pleasingDaysAfter(3, 0, 4), 63);
    }

    private static void gossipsOneDay() {
        words("g GOSSIP under SOUR: as an AUNT, and c was SAID nowhere 1 DAY ago or less");
        due("never", told("sg301;").stile(0, 4), 55);
        due("at her own, 6 days ago", pleasingDaysAfter(4, 3, 6), 0);
        due("at her own, 7 days ago", pleasingDaysAfter(4, 3, 7), 55);
        int[] ago = {51, 51, 55, 55, 55};
        for (int days = 0; days < ago.length; days++) {
            StileWantsCompliment x = told("sg301;sa012;w041;c012;");
            due("elsewhere, pleasesThen(0, " + days + ")", x.pleasesThen(0, days), ago[days]);
            tell(x, days == 0 ? "k01;" : "d0" + days + ";");
            due("elsewhere, " + days + " days ago", x.stile(0, 4), ago[days]);
        }
        StileWantsCompliment twice = told("sg301;sa012;sa012;w041;c012;d05;c022;d01;");
        due("the later of two sayings", twice.stile(0, 4), 51);
        due("the later of two sayings, a day on", twice.pleasesThen(0, 1), 55);
    }

    private static void deafOnesAboveFour() {
        words("d DEAF under YOUNG: any, if FIGURE is above 4, else as a YOUNG one");
        for (int figure = 0; figure <= 9; figure++) {
            due("today, figure " + figure, pleasingDaysAfter(5, figure, 0), figure > 4 ? 63 : 0);
            due("2 days ago, figure " + figure, pleasingDaysAfter(5, figure, 2), figure > 4 ? 63 : 0);
            due("3 days ago, figure " + figure, pleasingDaysAfter(5, figure, 3), 63);
        }
    }

    private static void pleasedOrNotItWasSaid() {
        words("PLEASED or not it was SAID there on this DAY");
        StileWantsCompliment x = told("sa001;sy701;w630;w631;");
        due("hers, says(0, 0, 0)", x.says(0, 0, 0), 0);
        due("last(0, 0)", x.last(0, 0), 0);
        due("over, says(0, 0, 1)", x.says(0, 0, 1), 1);
        due("back from the other side, says(1, 1, 1)", x.says(1, 1, 1), 1);
        due("walker(0, 1)", x.walker(0, 1), 1);
        due("walker(1, 1)", x.walker(1, 1), 0);
        x.days(6);
        due("a day too early, says(0, 0, 1)", x.says(0, 0, 1), 0);
        due("last(0, 1)", x.last(0, 1), 0);
        x.days(6);
        due("said in vain then, says(0, 0, 1)", x.says(0, 0, 1), 0);
        x.days(7);
        due("says(0, 0, 1)", x.says(0, 0, 1), 1);
        due("count(3)", x.count(3), 3);
        due("walker(0, 1)", x.walker(0, 1), 0);
    }

    // ---- II. then, ways, what is wanting

    private static void inThoughtPastTheLastDay() {
        words("(In thought DAY may pass 999.)");
        StileWantsCompliment x = onDay999("sa501;sa001;w010;c000;");
        due("pleasesThen(0, 6)", x.pleasesThen(0, 6), 30);
        due("pleasesThen(0, 7)", x.pleasesThen(0, 7), 31);
        due("pleasesThen(0, 60)", x.pleasesThen(0, 60), 31);
        due("openThen(0, 6)", x.openThen(0, 6), 0);
        due("openThen(0, 60)", x.openThen(0, 60), 1);
        due("when(0, 0)", x.when(0, 0), 7);
        x.row(30);
        x.row(30);
        due("whatIs(0, 0)", x.whatIs(0, 0), 17);
        due("tour(0, 0)", x.tour(0, 0), 0);
        due("lots", x.lots(20, 4, 0), told("sa501;sa001;w010;c000;").lots(20, 4, 0));
        due("lots, open", x.lots(20, 4, 1), told("sa501;sa001;w010;c000;").lots(20, 4, 1));
        due("count(2)", x.count(2), 999);
    }

    private static void zeroToSixtyDaysOn() {
        words("In mind, nothing SAID, n DAYS on (0 .. 60)");
        StileWantsCompliment x = told("sa501;w010;c000;");
        due("pleasesThen(0, 0)", x.pleasesThen(0, 0), x.stile(0, 4));
        due("openThen(0, 0)", x.openThen(0, 0), x.walker(0, 2));
        due("pleasesThen(0, 60)", x.pleasesThen(0, 60), 31);
        due("openThen(0, 60)", x.openThen(0, 60), 1);
        due("pleasesThen(0, -1)", x.pleasesThen(0, -1), -4);
        due("pleasesThen(0, 61)", x.pleasesThen(0, 61), -6);
        due("openThen(0, -1)", x.openThen(0, -1), -4);
        due("openThen(0, 61)", x.openThen(0, 61), -6);
        due("in mind alone, count(2)", x.count(2), 0);
    }

    private static void openOfAnyField() {
        words("OPEN for a WALKER: .. (of any FIELD)");
        StileWantsCompliment x = told("sp001;sp067;sp134;w010;w000;");
        due("far ones, too", x.walker(0, 2), 3);
        due("an empty store", x.walker(1, 2), 0);
        due("an empty store, openThen(1, 60)", x.openThen(1, 60), 0);
    }

    private static void wayToHisOwnField() {
        words("WAY: .. to his own FIELD 0, the first -9");
        StileWantsCompliment x = told("sp001;w017;w010;w000;");
        for (int walker = 0; walker < 3; walker++) {
            int own = x.walker(walker, 1);
            due("way(" + walker + ", own, 0)", x.way(walker, own, 0), 0);
            due("way(" + walker + ", own, 1)", x.way(walker, own, 1), -9);
        }
    }

    private static void noWay() {
        words("WAY .. -9 there is none");
        StileWantsCompliment x = told("sp001;sp112;w010;w631;");
        due("nothing pleases, way(0, 2, 0)", x.way(0, 2, 0), -9);
        due("way(0, 2, 1)", x.way(0, 2, 1), -9);
        due("no stile leads there, way(1, 7, 0)", x.way(1, 7, 0), -9);
        due("way(1, 7, 1)", x.way(1, 7, 1), -9);
        StileWantsCompliment none = told("w630;");
        due("no stiles, way(0, 1, 0)", none.way(0, 1, 0), -9);
        due("no stiles, way(0, 1, 1)", none.way(0, 1, 1), -9);
        refusalsOf(none, 0, 0);
    }

    private static void firstOfTheFirstWay() {
        words("the first STILE of the first such (the least each time)");
        StileWantsCompliment x = told("sp003;sp032;sp001;sp012;sp001;w010;");
        due("a longer way is none, way(0, 1, 1)", x.way(0, 1, 1), 2);
        due("of two the least, way(0, 2, 1)", x.way(0, 2, 1), 0);
        due("way(0, 2, 0)", x.way(0, 2, 0), 2);
        StileWantsCompliment lane = told("sp067;sp056;sp045;sp034;sp023;sp012;sp001;w010;");
        due("seven stiles, way(0, 7, 0)", lane.way(0, 7, 0), 7);
        due("the greatest is the first, way(0, 7, 1)", lane.way(0, 7, 1), 6);
    }

    private static void whateverHeSaysOnIt() {
        words("WAY: by what is OPEN now, whatever he SAYS on it");
        StileWantsCompliment x = told("sa501;sg512;sg523;w010;");
        due("way(0, 3, 0)", x.way(0, 3, 0), 3);
        due("but a tour", x.tour(0, 0), 1);
    }

    private static void reachHasHisOwn() {
        words("REACH has his own FIELD");
        StileWantsCompliment x = told("w630;w007;sp167;");
        due("walker(0, 3)", x.walker(0, 3), 1);
        due("walker(1, 3)", x.walker(1, 3), 128);
        StileWantsCompliment all = told("sp001;sp012;sp023;sp034;sp045;sp056;sp067;w014;");
        due("all fields", all.walker(0, 3), 255);
    }

    private static void shyOnes() {
        words("SHY: WALKERS (bits) who come to no other FIELD");
        due("nobody", new StileWantsCompliment().shy(), 0);
        due("no stiles", told("w630;w631;w632;w633;w634;").shy(), 31);
        StileWantsCompliment x = told("sp001;w000;w010;w012;w631;w011;");
        due("shy()", x.shy(), 5);
        due("open, but not of his field", x.walker(2, 2), 1);
        StileWantsCompliment none = told("sd501;w010;");
        due("none", none.shy(), 0);
    }

    private static void whenFirst() {
        words("WHEN: behind how many DAYS (0 .. 60) there is a WAY of one to a FIELD first; -9");
        StileWantsCompliment x = told("sa501;w030;c000;");
        due("his own", x.when(0, 1), 0);
        due("now", x.when(0, 0), 0);
        due("never", x.when(0, 2), -9);
        StileWantsCompliment young = told("sy001;w010;c000;");
        due("3 days", young.when(0, 0), 3);
        young.days(2);
        due("3 days, of them 2 gone", young.when(0, 0), 1);
        young.days(1);
        due("now", young.when(0, 0), 0);
        StileWantsCompliment lane = told("sy001;sa512;w010;c000;c010;");
        due("7 days", lane.when(0, 1), 7);
        due("7 and 3 days", lane.when(0, 0), 7);
        lane.days(6);
        due("7 days, of them 6 gone", lane.when(0, 0), 1);
        lane.days(1);
        due("now", lane.when(0, 0), 0);
        StileWantsCompliment empty = told("sd501;w000;");
        due("an empty store", empty.when(0, 1), -9);
    }

    private static void storeToHisOwn() {
        words("STORE to it is 0");
        StileWantsCompliment x = told("sa001;w000;w637;");
        due("store(0, 0)", x.store(0, 0), 0);
        due("store(1, 7)", x.store(1, 7), 0);
    }

    private static void storeOfNone() {
        words("STORE: the fewest COMPLIMENTS (bits, of several the least) ..; -9");
        StileWantsCompliment x = told("sp501;sp001;sp112;sp313;sp232;sy445;w630;c003;");
        due("of one and one the least, store(0, 1)", x.store(0, 1), 1);
        due("of two and two the least, store(0, 2)", x.store(0, 2), 3);
        due("another two, store(0, 3)", x.store(0, 3), 9);
        due("no stile leads there, store(0, 7)", x.store(0, 7), -9);
        due("far from there, store(0, 5)", x.store(0, 5), -9);
        StileWantsCompliment said = told("sy001;w630;c000;c001;c002;c003;c004;c005;");
        due("nothing pleases", said.stile(0, 4), 0);
        due("so none, store", said.store(0, 1 - said.walker(0, 1)), -9);
        StileWantsCompliment all = told("sp001;sp112;sp223;sp334;sp445;sp556;w000;");
        due("all six, store(0, 6)", all.store(0, 6), 63);
        StileWantsCompliment fewer = told("sp001;sp112;sp502;w000;");
        due("one great rather than two small, store(0, 2)", fewer.store(0, 2), 32);
    }

    private static void learnNothing() {
        words("LEARN: the COMPLIMENT that .. makes his REACH greatest, greater than now, of several the least; -9");
        StileWantsCompliment x = told("sp001;sp502;sp323;w630;w000;w007;");
        due("he has all, learn(0)", x.learn(0), -9);
        due("of several the least, learn(1)", x.learn(1), 0);
        due("no stile there, learn(2)", x.learn(2), -9);
        due("nothing is learned", x.walker(1, 0), 0);
        x.learns(1, 0);
        due("the last one that helps, learn(1)", x.learn(1), 5);
        StileWantsCompliment none = told("w000;");
        due("no stiles, learn(0)", none.learn(0), -9);
        StileWantsCompliment more = told("sp001;sp502;sp523;w000;");
        due("more fields, learn(0)", more.learn(0), 5);
        StileWantsCompliment far = told("sp012;w000;");
        due("open, but not there, learn(0)", far.learn(0), -9);
    }

    private static void gateNone() {
        words("GATE: the STILE that, OPEN for him whatever he has, makes it so, likewise; -9");
        StileWantsCompliment x = told("sp001;sp112;sp113;sp067;w010;w630;w000;w006;");
        due("of several the least, gate(0)", x.gate(0), 1);
        due("all open, gate(1)", x.gate(1), -9);
        due("an empty store, gate(2)", x.gate(2), 0);
        due("gate(3)", x.gate(3), 3);
        x.stands(3, 5);
        due("no stile of his, gate(3)", x.gate(3), -9);
        StileWantsCompliment none = told("w000;");
        due("no stiles, gate(0)", none.gate(0), -9);
        StileWantsCompliment last = told(times("sp012;", 8) + "sp501;w010;");
        due("the ninth, gate(0)", last.gate(0), 8);
    }

    private static void neededNone() {
        words("NEEDED: the STILE without which there is no WAY .., though there is one with it; -9");
        StileWantsCompliment x = told("sp001;sp112;w030;w010;");
        due("his own, needed(0, 0)", x.needed(0, 0), -9);
        due("needed(0, 1)", x.needed(0, 1), 0);
        due("of two the least, needed(0, 2)", x.needed(0, 2), 0);
        due("no way, needed(1, 2)", x.needed(1, 2), -9);
        due("no way, needed(0, 7)", x.needed(0, 7), -9);
        tell(x, "sp101;");
        due("two beside each other, needed(0, 1)", x.needed(0, 1), -9);
        due("then the next, needed(0, 2)", x.needed(0, 2), 1);
        StileWantsCompliment last = told(times("sp501;", 8) + "sp001;w010;");
        due("the ninth, needed(0, 1)", last.needed(0, 1), 8);
    }

    private static void sayNothing() {
        words("SAY: .. of several the least; -9");
        StileWantsCompliment x = told("sa001;sp112;w630;w000;w010;w030;w620;");
        due("all are alike, say(0, 0)", x.say(0, 0), 1);
        due("an empty store, say(1, 0)", x.say(1, 0), -9);
        due("she does not like it, say(2, 0)", x.say(2, 0), -9);
        due("not of his field, say(0, 1)", x.say(0, 1), -3);
        due("one of all, say(3, 0)", x.say(3, 0), 1);
        StileWantsCompliment great = told("sp501;w630;");
        due("the greatest, say(0, 0)", great.say(0, 0), 5);
        StileWantsCompliment other = told("sa001;w631;");
        due("from the other field, say(0, 0)", other.say(0, 0), 1);
        due("nothing is said", other.count(5), 0);
        StileWantsCompliment none = told("sa501;w010;");
        due("no stile is open behind it, say(0, 0)", none.say(0, 0), 0);
        StileWantsCompliment most = told("sa501;sg612;sg623;w050;");
        due("0 pleases no gossip anyhow, say(0, 0)", most.say(0, 0), 0);
        most.turn(1, 2, 0);
        most.turn(2, 4, 3);
        due("0 pleases behind it, 2 no more, say(0, 0)", most.say(0, 0), 0);
        most.learns(0, 0);
        due("one alone, say(0, 0)", most.say(0, 0), 2);
        StileWantsCompliment greater = told("sa501;sg212;sg223;w050;");
        due("0 is kept for the gossips, say(0, 0)", greater.say(0, 0), 2);
    }

    private static void nowIsNotTomorrow() {
        words("now: what was SAID six DAYS ago PLEASES 1 DAY on, not before");
        StileWantsCompliment x = told("sa501;sa501;w030;w030;c000;d06;");
        x.stands(0, 0);
        x.learns(0, 1);
        x.learns(1, 1);
        due("stile(0, 4)", x.stile(0, 4), 30);
        due("stile(0, 5)", x.stile(0, 5), 0);
        due("walker(0, 2)", x.walker(0, 2), 2);
        due("pleasesThen(0, 1)", x.pleasesThen(0, 1), 31);
        due("openThen(0, 1)", x.openThen(0, 1), 3);
        due("way(0, 1, 1)", x.way(0, 1, 1), 1);
        due("needed(0, 1)", x.needed(0, 1), 1);
        due("tour(0, 0)", x.tour(0, 0), 1);
        due("say(0, 0)", x.say(0, 0), -9);
        due("two(0, 1, 0)", x.two(0, 1, 0), 0);
        x.row(30);
        due("whatIs(0, 0)", x.whatIs(0, 0), 17);
        x.clear();
        x.row(1);
        due("judge()", x.judge(), -9);
        x.turn(1, 2, 5);
        nothingIsOpen(x);
    }

    private static void nothingIsOpen(StileWantsCompliment x) {
        due("walker(0, 3)", x.walker(0, 3), 1);
        due("way(0, 1, 0)", x.way(0, 1, 0), -9);
        due("shy()", x.shy(), 3);
        due("when(0, 1)", x.when(0, 1), 1);
        due("store(0, 1)", x.store(0, 1), 2);
        due("learn(0)", x.learn(0), 1);
        due("gate(0)", x.gate(0), 0);
        due("spent(0)", x.spent(0), 1);
        fraction(x, 0, 1, 2, 0, 1);
        x.stands(1, 1);
        due("meet(0)", x.meet(0), -9);
        due("says(0, 0, 0)", x.says(0, 0, 0), 0);
    }

    // ---- the stiles together

    private static void spentWithoutStiles() {
        words("SPENT without STILES: all six");
        StileWantsCompliment x = told("w630;");
        due("spent(0)", x.spent(0), 63);
        StileWantsCompliment one = told("sp501;");
        due("spent(0)", one.spent(0), 31);
        due("none", told("sd501;").spent(0), 0);
    }

    private static void rareOnesPleaseNowhere() {
        words("RARE: also one that PLEASES nowhere");
        StileWantsCompliment x = told("sp001;sp101;sp201;sp401;sp501;");
        due("spent(1)", x.spent(1), 3);
        due("without stiles, spent(1)", new StileWantsCompliment().spent(1), 0);
        due("all alike, spent(1)", told("sd501;").spent(1), 0);
        due("fewest, not none, spent(1)", told("sd501;sa401;").spent(1), 4);
        due("the last, spent(1)", told("sa501;").spent(1), 5);
        due("at eight of nine, spent(1)", told(times("sd501;", 8) + "sa301;").spent(1), 3);
    }

    private static void kindestOfNothing() {
        words("KINDEST: the least, if nothing PLEASES");
        StileWantsCompliment x = told("sy001;sy001;w630;");
        for (int compliment = 0; compliment < 6; compliment++) {
            x.says(0, 0, compliment);
            x.says(0, 1, compliment);
        }
        due("spent(0)", x.spent(0), 63);
        due("spent(2)", x.spent(2), 0);
        due("without stiles, spent(2)", new StileWantsCompliment().spent(2), -9);
        due("of several the least, spent(2)", told("sp001;sa001;sa101;").spent(2), 1);
        due("the ninth, spent(2)", told(times("sp001;", 8) + "sa001;").spent(2), 8);
    }

    private static void comparedSevenDays() {
        words("COMPARED: how many twos of STILES had the same COMPLIMENT SAID 7 DAYS ago or less at both");
        StileWantsCompliment x = told("sp001;sp001;w630;c005;d07;c015;");
        due("7 days ago, compared(0)", x.compared(0), 1);
        due("compared(1)", x.compared(1), 1);
        x.days(1);
        due("8 days ago, compared(0)", x.compared(0), 0);
        due("compared(1)", x.compared(1), -9);
        StileWantsCompliment one = told("sp001;w630;c000;");
        due("one stile, compared(0)", one.compared(0), 0);
        due("one stile, compared(1)", one.compared(1), -9);
        due("none, compared(0)", new StileWantsCompliment().compared(0), 0);
        due("none, compared(1)", new StileWantsCompliment().compared(1), -9);
        StileWantsCompliment all = told(times("sp501;", 9) + "w630;");
        for (int stile = 8; stile >= 0; stile--) {
            all.says(0, stile, 0);
            int said = 9 - stile;
            due("of " + said + ", compared(0)", all.compared(0), said * (said - 1) / 2);
            due("of " + said + ", compared(1)", all.compared(1), said == 1 ? -9 : 10 * stile + stile + 1);
        }
    }

    private static void tourOfNone() {
        words("TOUR: .. STILES at which nothing in his STORE PLEASES are left out");
        StileWantsCompliment x = told("sp101;sp001;sp112;w010;w000;w637;");
        due("tour(0, 0)", x.tour(0, 0), 1);
        due("tour(0, 1)", x.tour(0, 1), 1);
        due("an empty store, tour(1, 0)", x.tour(1, 0), 0);
        due("where he is, tour(1, 1)", x.tour(1, 1), 0);
        due("no stile, tour(2, 0)", x.tour(2, 0), 0);
        due("where he is, tour(2, 1)", x.tour(2, 1), 7);
        due("in mind", x.walker(0, 1), 0);
        StileWantsCompliment none = told("w630;");
        due("no stiles, tour(0, 0)", none.tour(0, 0), 0);
        due("no stiles, tour(0, 1)", none.tour(0, 1), 0);
    }

    private static void tourOverAll() {
        words("always over the least STILE of his FIELD that he did not go over on it, till there is none");
        StileWantsCompliment x = told(times("sd501;", 9) + "w320;");
        due("nine, tour(0, 0)", x.tour(0, 0), 9);
        due("tour(0, 1)", x.tour(0, 1), 1);
        StileWantsCompliment eight = told(times("sd501;", 8) + "w320;");
        due("eight, tour(0, 0)", eight.tour(0, 0), 8);
        due("back again, tour(0, 1)", eight.tour(0, 1), 0);
        StileWantsCompliment once = told("sd501;w637;w630;");
        due("each once, tour(1, 0)", once.tour(1, 0), 1);
        due("from the other field", once.stands(1, 1), 0);
        due("tour(1, 1)", once.tour(1, 1), 0);
    }

    private static void meetWithoutWalkers() {
        words("MEET without WALKERS: FIELD 0, 0");
        StileWantsCompliment x = new StileWantsCompliment();
        due("meet(0)", x.meet(0), 0);
        due("meet(1)", x.meet(1), 0);
        StileWantsCompliment stiles = told("sp345;");
        due("with stiles, meet(0)", stiles.meet(0), 0);
        due("with stiles, meet(1)", stiles.meet(1), 0);
    }

    private static void meetNowhere() {
        words("MEET: .. of several the least; -9; that; -9");
        StileWantsCompliment x = told("sp001;w010;w017;");
        due("meet(0)", x.meet(0), -9);
        due("meet(1)", x.meet(1), -9);
        StileWantsCompliment one = told("w637;");
        due("one of himself, meet(0)", one.meet(0), 7);
        due("one of himself, meet(1)", one.meet(1), 0);
        StileWantsCompliment five = told("sp067;w017;w017;w016;w016;w017;");
        due("five, meet(0)", five.meet(0), 7);
        due("five, meet(1)", five.meet(1), 2);
        StileWantsCompliment two = told("sp067;w017;w016;");
        due("of several the least, meet(0)", two.meet(0), 6);
        due("meet(1)", two.meet(1), 1);
        StileWantsCompliment still = told("sp067;w006;w017;");
        due("who has nothing stays, meet(0)", still.meet(0), 6);
        StileWantsCompliment far = told("sp001;sp012;sp023;sp034;sp045;sp056;sp067;w007;w010;w010;w010;w010;");
        due("far, meet(0)", far.meet(0), 7);
        due("far, meet(1)", far.meet(1), 28);
    }

    private static void callsNoneToAll() {
        words("CALLS: how many WALKERS a STILE is OPEN for");
        StileWantsCompliment x = told("sp501;sd501;sp001;w010;w011;w012;w017;w000;");
        due("none", x.stile(0, 5), 0);
        due("all with a store", x.stile(1, 5), 4);
        due("of any field", x.stile(2, 5), 4);
        due("nobody", told("sd501;").stile(0, 5), 0);
    }

    private static void lastNever() {
        words("LAST: how many DAYS ago ..; -9 never");
        StileWantsCompliment x = told("sp001;w630;");
        due("never", x.last(0, 0), -9);
        x.says(0, 0, 1);
        due("on day 0, today", x.last(0, 1), 0);
        due("another one never", x.last(0, 0), -9);
        tell(x, times("d60;", 16) + "d39;");
        due("as long as there are days", x.last(0, 1), 999);
        x.says(0, 0, 1);
        due("on the last day", x.last(0, 1), 0);
        x.forgets(0);
        due("forgotten", x.last(0, 1), -9);
        refusalsOf(x, 0, 0);
    }

    // ---- two who say the same

    private static void twoWithNothingToSay() {
        words("TWO: who chooses 1 and has nothing to SAY has 1 less");
        StileWantsCompliment x = told("sa501;w000;w000;w010;w020;w320;");
        due("both nothing, two(0, 1, 0)", x.two(0, 1, 0), 0);
        due("the other has, two(0, 2, 0)", x.two(0, 2, 0), 1);
        due("the first has, two(2, 0, 0)", x.two(2, 0, 0), 10);
        due("both have, two(2, 3, 0)", x.two(2, 3, 0), 11);
        due("what she does not like is nothing, two(4, 2, 0)", x.two(4, 2, 0), 1);
        due("what she does not like is nothing, two(2, 4, 0)", x.two(2, 4, 0), 10);
    }

    private static void twoInVain() {
        words("the first ahead (what PLEASES no more is SAID in vain)");
        StileWantsCompliment x = told("sa501;w010;w010;w030;");
        due("the same, two(0, 1, 0)", x.two(0, 1, 0), 10);
        due("the same, two(1, 0, 0)", x.two(1, 0, 0), 10);
        due("the least of each is the same, two(0, 2, 0)", x.two(0, 2, 0), 10);
        due("two(2, 0, 0)", x.two(2, 0, 0), 10);
        x.turn(0, 2, 0);
        due("a plain one does not mind, two(0, 1, 0)", x.two(0, 1, 0), 11);
        x.turn(0, 3, 0);
        due("a young one does, two(0, 1, 0)", x.two(0, 1, 0), 10);
        x.turn(0, 5, 4);
        due("a deaf one of 4 does, two(0, 1, 0)", x.two(0, 1, 0), 10);
        x.turn(0, 5, 5);
        due("a deaf one of 5 does not, two(0, 1, 0)", x.two(0, 1, 0), 11);
        due("nothing is said", x.count(5), 0);
    }

    // ---- fractions

    private static void fraction(StileWantsCompliment x, int walker, int field, int t, long above, long below) {
        String call = "hoarse(" + walker + ", " + field + ", " + t;
        due(call + ", 0)", x.hoarse(walker, field, t, 0), above);
        due(call + ", 1)", x.hoarse(walker, field, t, 1), below);
    }

    private static void hoarseOddsTwoToTwenty() {
        words("HOARSE: .. gone with odds 1 in t (2 .. 20)");
        StileWantsCompliment x = told("sp001;sp112;sp223;sp334;sp445;sp556;sd567;w630;w007;");
        fraction(x, 0, 1, 2, 1, 2);
        fraction(x, 0, 6, 2, 1, 64);
        fraction(x, 0, 6, 20, 47045881, 64000000);
        fraction(x, 0, 7, 20, 47045881, 64000000);
        fraction(x, 0, 1, 20, 19, 20);
        due("hoarse(0, 1, 1, 0)", x.hoarse(0, 1, 1, 0), LONG + 4);
        due("hoarse(0, 1, 21, 0)", x.hoarse(0, 1, 21, 0), LONG + 6);
    }

    private static void zeroAsZeroByOne() {
        words("Fractions are told in least terms; 0 as 0 by 1");
        StileWantsCompliment x = told("sp001;sy012;w000;w630;w310;w017;");
        fraction(x, 0, 1, 2, 0, 1);
        fraction(x, 1, 7, 20, 0, 1);
        fraction(x, 0, 0, 2, 1, 1);
        fraction(x, 1, 0, 20, 1, 1);
        fraction(x, 3, 7, 5, 1, 1);
        fraction(x, 1, 1, 4, 3, 4);
        fraction(x, 2, 1, 10, 9, 10);
        x.turn(0, 3, 0);
        fraction(x, 2, 1, 3, 242, 243);
        fraction(x, 2, 1, 2, 31, 32);
    }

    private static void meanOfNobody() {
        words("MEAN: of STORES (how many): a fraction (0 by 1 of nobody)");
        StileWantsCompliment x = new StileWantsCompliment();
        due("mean(0)", x.mean(0), 0);
        due("mean(1)", x.mean(1), 1);
        tell(x, "w000;w000;w000;");
        due("empty stores, mean(0)", x.mean(0), 0);
        due("empty stores, mean(1)", x.mean(1), 1);
        tell(x, "w630;w120;");
        due("mean(0)", x.mean(0), 8);
        due("mean(1)", x.mean(1), 5);
        x.learns(0, 0);
        x.learns(0, 5);
        due("in least terms, mean(0)", x.mean(0), 2);
        due("in least terms, mean(1)", x.mean(1), 1);
        StileWantsCompliment one = told("w070;");
        due("of one, mean(0)", one.mean(0), 3);
        due("of one, mean(1)", one.mean(1), 1);
        StileWantsCompliment all = told(times("w637;", 5));
        due("full stores, mean(0)", all.mean(0), 6);
        due("full stores, mean(1)", all.mean(1), 1);
    }

    // ---- rows

    private static void whatSheIsByAnEmptyRow() {
        words("WHAT SHE IS: .. KINDS (bits) of her by which all of it is so; FIGURES (bits 0 .. 9)");
        StileWantsCompliment x = told("sa001;");
        due("no row, whatIs(0, 0)", x.whatIs(0, 0), 63);
        due("no row, whatIs(0, 1)", x.whatIs(0, 1), 1023);
        x.row(99);
        due("no such bits, whatIs(0, 0)", x.whatIs(0, 0), 0);
        due("no such bits, whatIs(0, 1)", x.whatIs(0, 1), 0);
        x.clear();
        x.row(63);
        due("all please, whatIs(0, 0)", x.whatIs(0, 0), 40);
        due("all please an aunt, whatIs(0, 1)", x.whatIs(0, 1), 0);
        due("it stays", x.count(6), 1);
        x.turn(0, 5, 0);
        due("all please, whatIs(0, 1)", x.whatIs(0, 1), 1023);
        x.turn(0, 2, 3);
        x.clear();
        x.row(8);
        due("figures of a plain one, whatIs(0, 1)", x.whatIs(0, 1), 520);
        due("kinds of 3, whatIs(0, 0)", x.whatIs(0, 0), 4);
    }

    private static void whatSheIsDayByDay() {
        words("a ROW tells what PLEASES at a STILE (bits) now, 1 DAY on, ..");
        StileWantsCompliment x = told("sa501;w010;c000;");
        for (int n = 0; n < 7; n++) {
            x.row(30);
        }
        due("seven days, whatIs(0, 0)", x.whatIs(0, 0), 17);
        for (int n = 7; n < 16; n++) {
            x.row(31);
        }
        due("sixteen days, whatIs(0, 0)", x.whatIs(0, 0), 17);
        due("whatIs(0, 1)", x.whatIs(0, 1), 32);
        x.clear();
        for (int n = 0; n < 16; n++) {
            x.row(n < 7 ? 30 : n < 15 ? 31 : 30);
        }
        due("the sixteenth is not so, whatIs(0, 0)", x.whatIs(0, 0), 0);
        x.clear();
        for (int n = 0; n < 8; n++) {
            x.row(30);
        }
        due("the eighth is not so, whatIs(0, 0)", x.whatIs(0, 0), 0);
    }

    private static void rowSixteenAtMost() {
        words("A ROW of numbers (0 .. 99; 16 at most)");
        StileWantsCompliment x = new StileWantsCompliment();
        for (int n = 1; n <= 16; n++) {
            due("row " + n, x.row(n % 2 == 0 ? 0 : 99), n);
        }
        due("a 17th", x.row(0), -6);
        due("below, too", x.row(-1), -4);
        due("above, too", x.row(100), -6);
        due("count(6)", x.count(6), 16);
        due("clear()", x.clear(), 16);
        due("row(0)", x.row(0), 1);
    }

    private static void judgedNobodyThere() {
        words("JUDGED: .. the first that is not so (nobody there, too); -9");
        due("nothing, nobody", new StileWantsCompliment().judge(), -9);
        StileWantsCompliment x = told("sp001;sp112;w010;w030;w000;w630;w310;");
        judged(x, "", -9);
        judged(x, "1", -9);
        judged(x, "12022", -9);
        judged(x, "0", 0);
        judged(x, "2", 0);
        judged(x, "11022", 1);
        judged(x, "12021", 4);
        judged(x, "120220", 5);
        judged(x, "1202201", 5);
        StileWantsCompliment nobody = told("sp001;");
        judged(nobody, "0", 0);
        judged(nobody, "", -9);
        StileWantsCompliment all = told(times("sd501;", 9) + "w017;");
        judged(all, "9", -9);
        judged(all, "8", 0);
    }

    private static void judged(StileWantsCompliment x, String row, int want) {
        for (int i = 0; i < row.length(); i++) {
            x.row(row.charAt(i) - '0');
        }
        due("judge() of " + row, x.judge(), want);
        due("the row has none then", x.count(6), 0);
    }

    // ---- lots

    /** So many draws by the document's rule, in numbers without an end: z as it is behind each of them. */
    private static BigInteger[] draws(int z, int many) {
        BigInteger all = BigInteger.ONE.shiftLeft(32);
        BigInteger[] drawn = new BigInteger[many];
        BigInteger seed = BigInteger.valueOf(z);
        for (int i = 0; i < many; i++) {
            seed = seed.multiply(BigInteger.valueOf(1664525)).add(BigInteger.valueOf(1013904223)).mod(all);
            drawn[i] = seed;
        }
        return drawn;
    }

    private static int below(BigInteger drawn, int m) {
        BigInteger withoutSign = drawn.mod(BigInteger.ONE.shiftLeft(31));
        return withoutSign.divide(BigInteger.valueOf(256)).mod(BigInteger.valueOf(m)).intValue();
    }

    /** Lots over stiles at which stile 0 wants compliment 0 and the others are pleased by any. */
    private static int drawnOvers(int n, int z, int stiles, int[] stores) {
        BigInteger[] drawn = draws(z, 36 * n);
        int overs = 0;
        for (int i = 0; i < drawn.length; i += 3) {
            int store = stores[below(drawn[i], stores.length)];
            int stile = below(drawn[i + 1], stiles);
            int compliment = below(drawn[i + 2], 6);
            overs += (store & 1 << compliment) != 0 && (stile != 0 || compliment == 0) ? 1 : 0;
        }
        return overs;
    }

    /** Overs and opens of one walker with this store at one stile that wants no compliment twice in so many days. */
    private static int[] drawnWeeks(int n, int z, int store, int days) {
        BigInteger[] drawn = draws(z, 36 * n);
        int overs = 0;
        int opens = 0;
        for (int week = 0; week < n; week++) {
            int[] said = {-99, -99, -99, -99, -99, -99};
            for (int day = 0; day < 12; day++) {
                int compliment = below(drawn[36 * week + 3 * day + 2], 6);
                if ((store & 1 << compliment) != 0) {
                    overs += day - said[compliment] >= days ? 1 : 0;
                    said[compliment] = day;
                }
            }
            boolean open = false;
            for (int compliment = 0; compliment < 6; compliment++) {
                open |= (store & 1 << compliment) != 0 && 12 - said[compliment] >= days;
            }
            opens += open ? 1 : 0;
        }
        return new int[] {overs, opens};
    }

    private static void drawsWrapAround() {
        words("z becomes z times 1664525 and 1013904223 (an int); (z without its sign's bit by 256, cut) modulo m");
        int[] seeds = {0, 1, -1, 7, 255, 256, GREATEST, LEAST, GREATEST - 1, LEAST + 1, 1664525, -1013904223};
        for (int z : seeds) {
            StileWantsCompliment x = told("sp001;" + times("sd501;", 6) + "w630;w010;w421;w070;w001;");
            int[] stores = {63, 1, 42, 7, 0};
            due("lots(1, " + z + ", 0)", x.lots(1, z, 0), drawnOvers(1, z, 7, stores));
            due("lots(20, " + z + ", 0)", x.lots(20, z, 0), drawnOvers(20, z, 7, stores));
            StileWantsCompliment one = told("sp001;w010;");
            due("one of each, lots(20, " + z + ", 0)", one.lots(20, z, 0), drawnOvers(20, z, 1, new int[] {1}));
        }
    }

    private static void lotsDayByDay() {
        words("12 times ..: he SAYS it, if he can, and a DAY goes by, each time");
        for (int z = -20; z <= 20; z++) {
            StileWantsCompliment all = told("sy001;w630;");
            due("lots(20, " + z + ", 0)", all.lots(20, z, 0), drawnWeeks(20, z, 63, 3)[0]);
            due("lots(1, " + z + ", 0)", all.lots(1, z, 0), drawnWeeks(1, z, 63, 3)[0]);
            StileWantsCompliment one = told("sa001;w020;");
            due("of one compliment, lots(20, " + z + ", 0)", one.lots(20, z, 0), drawnWeeks(20, z, 2, 7)[0]);
            due("of one compliment, lots(20, " + z + ", 1)", one.lots(20, z, 1), drawnWeeks(20, z, 2, 7)[1]);
            one.turn(0, 3, 0);
            due("of a young one, lots(20, " + z + ", 1)", one.lots(20, z, 1), drawnWeeks(20, z, 2, 3)[1]);
        }
    }

    private static void lotsOneToTwentyWeeks() {
        words("n weeks (1 .. 20), each from now");
        StileWantsCompliment x = told("sd501;w630;");
        due("lots(1, 5, 0)", x.lots(1, 5, 0), 12);
        due("lots(20, 5, 0)", x.lots(20, 5, 0), 240);
        due("lots(1, 5, 1)", x.lots(1, 5, 1), 1);
        due("lots(20, 5, 1)", x.lots(20, 5, 1), 20);
        due("lots(0, 5, 0)", x.lots(0, 5, 0), -4);
        due("lots(21, 5, 0)", x.lots(21, 5, 0), -6);
        StileWantsCompliment all = told(times("sd501;", 9) + "w630;");
        due("nine open each week", all.lots(20, 5, 1), 180);
        StileWantsCompliment far = told("sd501;w637;");
        due("who is not there says nothing", far.lots(20, 5, 0), 0);
        due("but a stile is open", far.lots(20, 5, 1), 20);
    }

    private static void lotsDaysGoByAlways() {
        words("LOTS: a DAY goes by also if he can not SAY it");
        StileWantsCompliment x = told("sa501;w010;c000;w637;");
        x.stands(0, 7);
        due("shut now", x.walker(0, 2), 0);
        due("twelve days on it is open, each week", x.lots(20, 3, 1), 20);
        due("nobody got over", x.lots(20, 3, 0), 0);
        StileWantsCompliment empty = told("sa501;w000;");
        due("an empty store", empty.lots(20, 3, 0), 0);
        due("an empty store, open", empty.lots(20, 3, 1), 0);
    }

    private static void lotsWithoutAny() {
        words("-3 nobody, no STILES");
        due("no stiles", told("w630;").lots(1, 1, 0), -3);
        due("nobody", told("sd501;").lots(1, 1, 1), -3);
        StileWantsCompliment x = new StileWantsCompliment();
        due("neither", x.lots(1, 1, 0), -3);
        refusalsOf(x, -3, 1);
        due("what ahead of it", x.lots(20, 1, 2), -2);
        due("below ahead of it", x.lots(0, 1, 2), -4);
        due("above ahead of it", x.lots(21, 1, -1), -6);
    }

    // ---- image, counts

    private static void imageOfAllThatThereIs() {
        words("THE IMAGE: all that there is, but it, the ROW, letters, REFUSALS; ON from it all is as then");
        StileWantsCompliment x = told(COUNTY);
        String before = described(x);
        due("image()", x.image(), 3);
        x.row(4);
        x.letter('d');
        x.stile(9, 0);
        tell(x, "0");
        tell(x, "sp067;w637;d60;f0;k03;");
        x.turn(2, 5, 9);
        x.stands(1, 6);
        x.row(5);
        x.letter('d');
        due("it is not as then", before.equals(described(x)) ? 1 : 0, 0);
        due("on()", x.on(), 3);
        due("all is as then", before.equals(described(x)) ? 1 : 0, 1);
        due("but the row", x.count(6), 2);
        due("but letters", x.count(7), 1);
        due("but refusals", x.count(11), 1);
        due("on() again", x.on(), 3);
    }

    private static String described(StileWantsCompliment x) {
        StringBuilder all = new StringBuilder();
        for (int what = 0; what <= 5; what++) {
            all.append(x.count(what)).append(' ');
        }
        for (int stile = 0; stile < 6; stile++) {
            for (int i = 0; i < 6; i++) {
                all.append(x.stile(stile, i)).append(' ').append(x.last(stile, i)).append(' ');
            }
        }
        for (int i = 0; i < 4; i++) {
            all.append(x.walker(0, i)).append(' ').append(x.walker(1, i)).append(' ');
        }
        return all.toString();
    }

    private static void noImage() {
        words("ON from it: DAY. -3 there is none");
        StileWantsCompliment x = told("d05;");
        due("on()", x.on(), -3);
        due("on()", x.on(), -3);
        due("count(2)", x.count(2), 5);
        refusalsOf(x, -3, 2);
        due("image()", x.image(), 5);
        due("on()", x.on(), 5);
        refusalsOf(x, -3, 2);
        StileWantsCompliment first = new StileWantsCompliment();
        due("image() of nothing", first.image(), 0);
        tell(first, "sp001;w637;d09;");
        due("on()", first.on(), 0);
        due("count(0)", first.count(0), 0);
        due("count(1)", first.count(1), 0);
        due("walker(0, 0)", first.walker(0, 0), -1);
        tell(first, "sa012;");
        due("a new stile is as told", first.stile(0, 4), 62);
        due("and nothing was said", first.last(0, 0), -9);
    }

    private static void whatWasSaidIsNotOfALaterStile() {
        words("ON from it all is as then: what was SAID at a STILE that is no more is not SAID at the next");
        StileWantsCompliment x = told("w630;");
        x.image();
        tell(x, "sy001;c000;c001;");
        due("count(5)", x.count(5), 2);
        x.on();
        due("count(5)", x.count(5), 0);
        tell(x, "sy001;");
        due("stile(0, 4)", x.stile(0, 4), 63);
        due("count(5)", x.count(5), 0);
        due("a fault", tell(x, "sy001;c010;c011;w640;"), -2016);
        tell(x, "sy001;");
        due("stile(1, 4)", x.stile(1, 4), 63);
        due("count(5)", x.count(5), 0);
    }

    private static void countOfAnother() {
        words("-9 for another what");
        StileWantsCompliment x = told(COUNTY);
        int[] others = {-1, -9, 8, 9, 10, 17, 18, 111, LEAST, GREATEST, LEAST + 10, GREATEST - 10};
        for (int what : others) {
            due("count(" + what + ")", x.count(what), -9);
        }
        refusalsOf(x, 0, 0);
    }

    private static void countOfRefusals() {
        words("11 .. 16 REFUSALS -1 .. -6");
        StileWantsCompliment x = told(COUNTY);
        x.stile(9, 0);
        x.hoarse(9, 0, 2, 0);
        x.stile(0, 9);
        x.mean(9);
        x.mean(-1);
        x.says(0, 5, 0);
        x.on();
        x.on();
        x.two(0, 1, 5);
        x.letter(-1);
        x.hoarse(0, 0, 1, 0);
        x.row(-1);
        x.lots(0, 0, 0);
        x.days(0);
        x.letter(256);
        x.hoarse(0, 0, 21, 0);
        x.row(100);
        x.lots(21, 0, 0);
        x.days(61);
        x.pleasesThen(0, 61);
        int[] want = {2, 3, 4, 5, 0, 6};
        for (int i = 0; i < want.length; i++) {
            due("count(" + (11 + i) + ")", x.count(11 + i), want[i]);
        }
    }

    private static void countOfSaid() {
        words("5 how many were SAID (of all STILES, each COMPLIMENT once)");
        StileWantsCompliment x = told("sd501;sd501;w630;");
        due("none", x.count(5), 0);
        for (int compliment = 0; compliment < 6; compliment++) {
            x.says(0, 0, compliment);
            x.says(0, 0, compliment);
            due("once each, count(5)", x.count(5), compliment + 1);
        }
        x.says(0, 1, 0);
        due("at another stile, count(5)", x.count(5), 7);
        x.days(60);
        due("ever, count(5)", x.count(5), 7);
        due("forgets(0)", x.forgets(0), 6);
        due("count(5)", x.count(5), 1);
        due("forgets(0) again", x.forgets(0), 0);
    }

    private static void fiveHundredAndTwelveCalls() {
        words("An object is used for at most 512 calls after it has been made");
        StileWantsCompliment x = new StileWantsCompliment();
        int calls = 65;
        tell(x, COUNTY);
        for (; calls < 508; calls++) {
            x.hoarse(calls % 7 - 1, calls % 11 - 1, calls % 23, calls % 3);
        }
        due("lots", x.lots(20, 9, 0) >= 0 ? 1 : 0, 1);
        due("walker(0, 1)", x.walker(0, 1), 1);
        due("says(0, 0, 2)", x.says(0, 0, 2), 1);
        due("the 512th, count(3)", x.count(3), 2);
    }

    // ---- refused calls, promise by promise

    private static void refusedLetters() {
        words("Promise 2: -4; -6 (255; 96, too)");
        for (int c : UNDER) {
            refused("letter(" + c + ")", x -> x.letter(c), -4);
        }
        for (int c : new int[] {256, 257, 1000, GREATEST}) {
            refused("letter(" + c + ")", x -> x.letter(c), -6);
        }
        StileWantsCompliment x = new StileWantsCompliment();
        due("letter(0)", x.letter(0), 1);
        due("letter(255)", x.letter(255), 2);
    }

    private static void refusedOfStiles() {
        words("Promises 4, 9, 13: -1; -2; -4; -6 60");
        for (int stile : new int[] {-1, 6, 9, LEAST, GREATEST}) {
            refused("stile(" + stile + ", 0)", x -> x.stile(stile, 0), -1);
            refused("stile(" + stile + ", 6)", x -> x.stile(stile, 6), -1);
            refused("forgets(" + stile + ")", x -> x.forgets(stile), -1);
            refused("pleasesThen(" + stile + ", 0)", x -> x.pleasesThen(stile, 0), -1);
            refused("pleasesThen(" + stile + ", -1)", x -> x.pleasesThen(stile, -1), -1);
            refused("pleasesThen(" + stile + ", 61)", x -> x.pleasesThen(stile, 61), -1);
            refused("whatIs(" + stile + ", 0)", x -> x.whatIs(stile, 0), -1);
            refused("whatIs(" + stile + ", 2)", x -> x.whatIs(stile, 2), -1);
            refused("last(" + stile + ", 0)", x -> x.last(stile, 0), -1);
        }
        for (int what : new int[] {-1, 6, LEAST, GREATEST}) {
            refused("stile(5, " + what + ")", x -> x.stile(5, what), -2);
        }
        for (int n : UNDER) {
            refused("pleasesThen(5, " + n + ")", x -> x.pleasesThen(5, n), -4);
        }
        refused("pleasesThen(0, 61)", x -> x.pleasesThen(0, 61), -6);
        refused("pleasesThen(5, greatest)", x -> x.pleasesThen(5, GREATEST), -6);
    }

    private static void refusedOfWalkers() {
        words("Promises 5, 14, 19, 20, 25: -1; -2; -4; -6 60");
        for (int walker : new int[] {-1, 2, 5, LEAST, GREATEST}) {
            refused("walker(" + walker + ", 0)", x -> x.walker(walker, 0), -1);
            refused("walker(" + walker + ", 4)", x -> x.walker(walker, 4), -1);
            refused("openThen(" + walker + ", 0)", x -> x.openThen(walker, 0), -1);
            refused("openThen(" + walker + ", -1)", x -> x.openThen(walker, -1), -1);
            refused("openThen(" + walker + ", 61)", x -> x.openThen(walker, 61), -1);
            refused("learn(" + walker + ")", x -> x.learn(walker), -1);
            refused("gate(" + walker + ")", x -> x.gate(walker), -1);
            refused("tour(" + walker + ", 0)", x -> x.tour(walker, 0), -1);
            refused("tour(" + walker + ", 2)", x -> x.tour(walker, 2), -1);
        }
        for (int what : new int[] {-1, 4, LEAST, GREATEST}) {
            refused("walker(1, " + what + ")", x -> x.walker(1, what), -2);
        }
        for (int what : new int[] {-1, 2, LEAST, GREATEST}) {
            refused("tour(1, " + what + ")", x -> x.tour(1, what), -2);
        }
        for (int n : UNDER) {
            refused("openThen(1, " + n + ")", x -> x.openThen(1, n), -4);
        }
        refused("openThen(0, 61)", x -> x.openThen(0, 61), -6);
        refused("openThen(1, greatest)", x -> x.openThen(1, GREATEST), -6);
    }

    private static void refusedOfCompliments() {
        words("Promises 6, 8: -1 either");
        for (int compliment : new int[] {-1, 6, 31, 32, LEAST, GREATEST}) {
            refused("last(0, " + compliment + ")", x -> x.last(0, compliment), -1);
            refused("last(1, " + compliment + ")", x -> x.last(1, compliment), -1);
            refused("learns(0, " + compliment + ")", x -> x.learns(0, compliment), -1);
            refused("learns(2, " + compliment + ")", x -> x.learns(2, compliment), -1);
        }
        refused("learns(-1, 0)", x -> x.learns(-1, 0), -1);
        refused("learns(2, 0)", x -> x.learns(2, 0), -1);
    }

    private static void refusedSayings() {
        words("Promises 7, 22: -1 any; -3 it is not of his FIELD, or not in his STORE");
        for (int other : new int[] {-1, 6, LEAST, GREATEST}) {
            refused("says(" + other + ", 0, 0)", x -> x.says(other, 0, 0), -1);
            refused("says(0, " + other + ", 0)", x -> x.says(0, other, 0), -1);
            refused("says(0, 0, " + other + ")", x -> x.says(0, 0, other), -1);
            refused("says(0, 5, " + other + ")", x -> x.says(0, 5, other), -1);
            refused("say(" + other + ", 0)", x -> x.say(other, 0), -1);
            refused("say(0, " + other + ")", x -> x.say(0, other), -1);
        }
        refused("says(2, 0, 0)", x -> x.says(2, 0, 0), -1);
        refused("say(2, 0)", x -> x.say(2, 0), -1);
        refused("not of his field, says(0, 5, 0)", x -> x.says(0, 5, 0), -3);
        refused("neither, says(1, 5, 0)", x -> x.says(1, 5, 0), -3);
        refused("not in his store, says(1, 0, 0)", x -> x.says(1, 0, 0), -3);
        refused("not of his field, say(0, 5)", x -> x.say(0, 5), -3);
        refused("not of his field, say(1, 2)", x -> x.say(1, 2), -3);
    }

    private static void refusedPlaces() {
        words("Promises 10, 15, 17, 18, 21: -1 either; -2");
        for (int field : new int[] {-1, 8, 9, LEAST, GREATEST}) {
            refused("stands(0, " + field + ")", x -> x.stands(0, field), -1);
            refused("way(0, " + field + ", 0)", x -> x.way(0, field, 0), -1);
            refused("way(0, " + field + ", 2)", x -> x.way(0, field, 2), -1);
            refused("when(0, " + field + ")", x -> x.when(0, field), -1);
            refused("store(0, " + field + ")", x -> x.store(0, field), -1);
            refused("needed(0, " + field + ")", x -> x.needed(0, field), -1);
        }
        for (int walker : new int[] {-1, 2, LEAST, GREATEST}) {
            refused("stands(" + walker + ", 0)", x -> x.stands(walker, 0), -1);
            refused("way(" + walker + ", 0, 0)", x -> x.way(walker, 0, 0), -1);
            refused("way(" + walker + ", 0, 2)", x -> x.way(walker, 0, 2), -1);
            refused("when(" + walker + ", 0)", x -> x.when(walker, 0), -1);
            refused("store(" + walker + ", 0)", x -> x.store(walker, 0), -1);
            refused("needed(" + walker + ", 0)", x -> x.needed(walker, 0), -1);
        }
        for (int what : new int[] {-1, 2, LEAST, GREATEST}) {
            refused("way(0, 7, " + what + ")", x -> x.way(0, 7, what), -2);
            refused("way(1, 1, " + what + ")", x -> x.way(1, 1, what), -2);
        }
    }

    private static void refusedTurns() {
        words("Promise 11: -1; -2; -4; -6 9");
        for (int stile : new int[] {-1, 6, LEAST, GREATEST}) {
            refused("turn(" + stile + ", 0, 0)", x -> x.turn(stile, 0, 0), -1);
            refused("turn(" + stile + ", 6, -1)", x -> x.turn(stile, 6, -1), -1);
        }
        for (int kind : new int[] {-1, 6, LEAST, GREATEST}) {
            refused("turn(0, " + kind + ", 0)", x -> x.turn(0, kind, 0), -2);
            refused("turn(0, " + kind + ", -1)", x -> x.turn(0, kind, -1), -2);
            refused("turn(0, " + kind + ", 10)", x -> x.turn(0, kind, 10), -2);
        }
        for (int figure : UNDER) {
            refused("turn(5, 5, " + figure + ")", x -> x.turn(5, 5, figure), -4);
        }
        refused("turn(0, 0, 10)", x -> x.turn(0, 0, 10), -6);
        refused("turn(5, 5, greatest)", x -> x.turn(5, 5, GREATEST), -6);
    }

    private static void refusedDays() {
        words("Promise 12: -4; -6 (60; DAY above 999)");
        refused("days(0)", x -> x.days(0), -4);
        for (int n : UNDER) {
            refused("days(" + n + ")", x -> x.days(n), -4);
        }
        refused("days(61)", x -> x.days(61), -6);
        refused("days(greatest)", x -> x.days(GREATEST), -6);
        StileWantsCompliment x = onDay999("");
        due("days(0), day 999", x.days(0), -4);
        due("days(1), day 999", x.days(1), -6);
        due("days(61), day 999", x.days(61), -6);
    }

    private static void refusedWhats() {
        words("Promises 23, 24, 26, 29, 30: -2");
        for (int what : new int[] {-1, 2, 3, LEAST, GREATEST}) {
            if (what != 2) {
                refused("spent(" + what + ")", x -> x.spent(what), -2);
            }
            refused("compared(" + what + ")", x -> x.compared(what), -2);
            refused("meet(" + what + ")", x -> x.meet(what), -2);
            refused("whatIs(5, " + what + ")", x -> x.whatIs(5, what), -2);
            refusedLong("mean(" + what + ")", x -> x.mean(what), -2);
        }
    }

    private static void refusedTwo() {
        words("Promise 27: -1 any (one twice, too); -3 they are not in one FIELD, or it is not of that");
        for (int other : new int[] {-1, 6, LEAST, GREATEST}) {
            refused("two(" + other + ", 1, 0)", x -> x.two(other, 1, 0), -1);
            refused("two(0, " + other + ", 0)", x -> x.two(0, other, 0), -1);
            refused("two(0, 1, " + other + ")", x -> x.two(0, 1, other), -1);
        }
        refused("two(2, 1, 0)", x -> x.two(2, 1, 0), -1);
        refused("two(0, 2, 0)", x -> x.two(0, 2, 0), -1);
        refused("one twice, two(0, 0, 0)", x -> x.two(0, 0, 0), -1);
        refused("one twice, two(1, 1, 5)", x -> x.two(1, 1, 5), -1);
        refused("not in one field, two(0, 1, 0)", x -> x.two(0, 1, 0), -3);
        refused("not in one field, two(0, 1, 1)", x -> x.two(0, 1, 1), -3);
        refused("not in one field, two(1, 0, 5)", x -> x.two(1, 0, 5), -3);
        StileWantsCompliment x = told(COUNTY);
        due("in one field, two(0, 1, 0)", x.two(0, 1, 0) >= 0 ? 1 : 0, 1);
        due("in one field, two(1, 0, 1)", x.two(1, 0, 1) >= 0 ? 1 : 0, 1);
        due("not of that, two(0, 1, 2)", x.two(0, 1, 2), -3);
        refusalsOf(x, -3, 1);
    }

    private static void refusedHoarse() {
        words("Promise 28: -1 either; -4 (t below 2); -6 20; -2. Of longs they are 4000000000000000000 less them");
        for (int walker : new int[] {-1, 2, LEAST, GREATEST}) {
            refusedLong("hoarse(" + walker + ", 0, 2, 0)", x -> x.hoarse(walker, 0, 2, 0), -1);
            refusedLong("hoarse(" + walker + ", 0, 1, 2)", x -> x.hoarse(walker, 0, 1, 2), -1);
        }
        for (int field : new int[] {-1, 8, LEAST, GREATEST}) {
            refusedLong("hoarse(0, " + field + ", 2, 0)", x -> x.hoarse(0, field, 2, 0), -1);
            refusedLong("hoarse(1, " + field + ", 21, 2)", x -> x.hoarse(1, field, 21, 2), -1);
        }
        for (int t : new int[] {1, 0, -1, LEAST}) {
            refusedLong("hoarse(0, 7, " + t + ", 0)", x -> x.hoarse(0, 7, t, 0), -4);
            refusedLong("hoarse(0, 7, " + t + ", 2)", x -> x.hoarse(0, 7, t, 2), -4);
        }
        for (int t : new int[] {21, 22, GREATEST}) {
            refusedLong("hoarse(0, 7, " + t + ", 0)", x -> x.hoarse(0, 7, t, 0), -6);
            refusedLong("hoarse(0, 7, " + t + ", -1)", x -> x.hoarse(0, 7, t, -1), -6);
        }
        for (int part : new int[] {-1, 2, LEAST, GREATEST}) {
            refusedLong("hoarse(1, 0, 2, " + part + ")", x -> x.hoarse(1, 0, 2, part), -2);
            refusedLong("hoarse(1, 0, 20, " + part + ")", x -> x.hoarse(1, 0, 20, part), -2);
        }
    }

    private static void refusedRows() {
        words("Promise 31: -4; -6 (99; 16, too)");
        for (int v : UNDER) {
            refused("row(" + v + ")", x -> x.row(v), -4);
        }
        for (int v : new int[] {100, 101, 255, GREATEST}) {
            refused("row(" + v + ")", x -> x.row(v), -6);
        }
    }

    private static void refusedLots() {
        words("Promise 34: -4; -6 20; -2; -3 nobody, no STILES");
        refused("lots(0, 0, 0)", x -> x.lots(0, 0, 0), -4);
        refused("lots(0, 0, 2)", x -> x.lots(0, 0, 2), -4);
        for (int n : UNDER) {
            refused("lots(" + n + ", 1, 0)", x -> x.lots(n, 1, 0), -4);
        }
        for (int n : new int[] {21, 22, GREATEST}) {
            refused("lots(" + n + ", 1, 1)", x -> x.lots(n, 1, 1), -6);
            refused("lots(" + n + ", 1, 2)", x -> x.lots(n, 1, 2), -6);
        }
        for (int what : new int[] {-1, 2, LEAST, GREATEST}) {
            refused("lots(1, 1, " + what + ")", x -> x.lots(1, 1, what), -2);
            refused("lots(20, 1, " + what + ")", x -> x.lots(20, 1, what), -2);
        }
    }

    private static void numbersOfThings() {
        aNewObjectHasNobody();
        aNewObjectIsEmpty();
        fieldsZeroToSeven();
        complimentsZeroToFive();
        stilesNineAtMost();
        figureZeroToNine();
        walkersFiveAtMost();
        storeZeroToSixtyThree();
        overFromZero();
        dayZeroToTheLast();
    }

    private static void lettersOfACounty() {
        lettersNinetySixAtMost();
        eachLetterOfEachStatement();
        atLeastOneStatement();
        kindOneAheadOfKindTwo();
        everyStileTold();
        everyFieldOfAWalker();
        everySayingTold();
        everyLearningTold();
        everyForgettingTold();
        everyNumberOfDaysTold();
        dayAboveTold();
        behindAllAheadOfIt();
        noRoomForMore();
        withOneNothing();
        lettersAreNoMore();
    }

    private static void whatPleases() {
        newIsSevenDays();
        figureModuloSix();
        sourOnesAsAunts();
        plainOnesNewOrNot();
        youngOnesThreeDays();
        gossipsOneDay();
        deafOnesAboveFour();
        pleasedOrNotItWasSaid();
        inThoughtPastTheLastDay();
        zeroToSixtyDaysOn();
    }

    private static void waysAndWants() {
        openOfAnyField();
        wayToHisOwnField();
        noWay();
        firstOfTheFirstWay();
        whateverHeSaysOnIt();
        reachHasHisOwn();
        shyOnes();
        whenFirst();
        storeToHisOwn();
        storeOfNone();
        learnNothing();
        gateNone();
        neededNone();
        sayNothing();
        nowIsNotTomorrow();
    }

    private static void stilesAndWalkersTogether() {
        spentWithoutStiles();
        rareOnesPleaseNowhere();
        kindestOfNothing();
        comparedSevenDays();
        tourOfNone();
        tourOverAll();
        meetWithoutWalkers();
        meetNowhere();
        callsNoneToAll();
        lastNever();
        twoWithNothingToSay();
        twoInVain();
    }

    private static void fractionsRowsAndLots() {
        hoarseOddsTwoToTwenty();
        zeroAsZeroByOne();
        meanOfNobody();
        whatSheIsByAnEmptyRow();
        whatSheIsDayByDay();
        rowSixteenAtMost();
        judgedNobodyThere();
        drawsWrapAround();
        lotsDayByDay();
        lotsOneToTwentyWeeks();
        lotsDaysGoByAlways();
        lotsWithoutAny();
    }

    private static void imageAndCounts() {
        imageOfAllThatThereIs();
        noImage();
        whatWasSaidIsNotOfALaterStile();
        countOfAnother();
        countOfRefusals();
        countOfSaid();
        fiveHundredAndTwelveCalls();
    }

    private static void refusedCalls() {
        refusedLetters();
        refusedOfStiles();
        refusedOfWalkers();
        refusedOfCompliments();
        refusedSayings();
        refusedPlaces();
        refusedTurns();
        refusedDays();
        refusedWhats();
        refusedTwo();
        refusedHoarse();
        refusedRows();
        refusedLots();
    }

    public static void main(String[] args) {
        numbersOfThings();
        lettersOfACounty();
        whatPleases();
        waysAndWants();
        stilesAndWalkersTogether();
        fractionsRowsAndLots();
        imageAndCounts();
        refusedCalls();
        System.out.println(wrong == 0 ? "every boundary holds" : wrong + " answers are not as due");
        if (wrong != 0) {
            System.exit(1);
        }
    }
}
