/** A county of fields and stiles, an aunt by each stile, and walkers who pay her compliments. */
public final class StileWantsCompliment {

    private static final int FIELDS = 8;
    private static final int COMPLIMENTS = 6;
    private static final int STILES = 9;
    private static final int WALKERS = 5;
    private static final int KINDS = 6;
    private static final int FIGURES = 10;
    private static final int STORES = 64;
    private static final int MOST_OVER = 9999;
    private static final int LAST_DAY = 999;
    private static final int MOST_DAYS = 60;
    private static final int MOST_LETTERS = 96;
    private static final int GREATEST_LETTER = 255;
    private static final int MOST_IN_ROW = 16;
    private static final int GREATEST_IN_ROW = 99;
    private static final int MOST_WEEKS = 20;
    private static final int TIMES_A_WEEK = 12;
    private static final int LEAST_ODDS = 2;
    private static final int MOST_ODDS = 20;
    private static final int WITHOUT_SIGN = 0x7fffffff;
    /** More than Euclid's steps with any two longs. */
    private static final int EUCLID_STEPS = 100;

    private static final int NEW_AFTER = 7;
    private static final int YOUNG_AFTER = 3;
    private static final int GOSSIP_WITHIN = 1;
    private static final int DEAF_ABOVE = 4;
    private static final int COMPARED_WITHIN = 7;
    /** Stands for "never said": more days ago than any rule asks for. */
    private static final int LONG_AGO = 1000000;

    private static final int NOBODY = -1;
    private static final int OTHER = -2;
    private static final int STATE = -3;
    private static final int BELOW = -4;
    private static final int ROOM = -6;
    private static final int REFUSALS = 7;
    private static final int NONE = -9;
    private static final long REFUSED_LONG = 4000000000000000000L;
    private static final int WRONG_LETTER = -1000;
    private static final int WRONG_STATEMENT = -2000;
    private static final int FIRST_REFUSAL_COUNT = 11;

    private final County now;
    private final County mind;
    private final County picture;
    private final Taste taste;
    private final Text text;
    private final Cells rowNumbers;
    private final Cells refusals;
    private boolean pictured;
    private int rowLength;
    private int seed;

    public StileWantsCompliment() {
        now = new County();
        mind = new County();
        picture = new County();
        taste = new Taste();
        text = new Text();
        rowNumbers = new Cells(MOST_IN_ROW);
        refusals = new Cells(REFUSALS);
    }

    // ---- the county, told in letters

    public int letter(int c) {
        if (c < 0) {
            return refuse(BELOW);
        }
        if (c > GREATEST_LETTER || text.isFull()) {
            return refuse(ROOM);
        }
        text.add(c);
        return text.length();
    }

    public int county() {
        int wrong = text.firstWrongLetter();
        int answer = WRONG_LETTER - wrong;
        if (wrong == NONE) {
            mind.becomes(now);
            answer = text.tellTo(mind);
            if (answer >= 0) {
                now.becomes(mind);
            }
        }
        text.empty();
        return answer;
    }

    // ---- what there is

    public int stile(int stile, int what) {
        if (!now.hasStile(stile)) {
            return refuse(NOBODY);
        }
        switch (what) {
            case 0:
                return now.kindOf(stile);
            case 1:
                return now.figureOf(stile);
            case 2:
                return now.oneFieldOf(stile);
            case 3:
                return now.otherFieldOf(stile);
            case 4:
                return now.pleasing(stile, 0);
            case 5:
                return callsAt(stile);
            default:
                return refuse(OTHER);
        }
    }

    public int walker(int walker, int what) {
        if (!now.hasWalker(walker)) {
            return refuse(NOBODY);
        }
        switch (what) {
            case 0:
                return now.storeOf(walker);
            case 1:
                return now.fieldOf(walker);
            case 2:
                return openFor(walker, 0);
            case 3:
                return now.reach(now.fieldOf(walker), openFor(walker, 0));
            default:
                return refuse(OTHER);
        }
    }

    public int last(int stile, int compliment) {
        if (!now.hasStile(stile) || !isCompliment(compliment)) {
            return refuse(NOBODY);
        }
        int ago = now.daysSince(stile, compliment, 0);
        return ago == LONG_AGO ? NONE : ago;
    }

    // ---- what happens

    public int says(int walker, int stile, int compliment) {
        if (!now.hasWalker(walker) || !now.hasStile(stile) || !isCompliment(compliment)) {
            return refuse(NOBODY);
        }
        int over = now.speak(walker, stile, compliment);
        return over == STATE ? refuse(STATE) : over;
    }

    public int learns(int walker, int compliment) {
        if (!now.hasWalker(walker) || !isCompliment(compliment)) {
            return refuse(NOBODY);
        }
        now.changeStore(walker, compliment);
        return now.storeOf(walker);
    }

    public int forgets(int stile) {
        if (!now.hasStile(stile)) {
            return refuse(NOBODY);
        }
        int were = now.saidAt(stile);
        now.forgetAll(stile);
        return were;
    }

    public int stands(int walker, int field) {
        if (!now.hasWalker(walker) || !isField(field)) {
            return refuse(NOBODY);
        }
        int was = now.fieldOf(walker);
        now.place(walker, field);
        return was;
    }

    public int turn(int stile, int kind, int figure) {
        if (!now.hasStile(stile)) {
            return refuse(NOBODY);
        }
        if (kind < 0 || kind >= KINDS) {
            return refuse(OTHER);
        }
        if (figure < 0) {
            return refuse(BELOW);
        }
        if (figure >= FIGURES) {
            return refuse(ROOM);
        }
        int was = 10 * now.kindOf(stile) + now.figureOf(stile);
        now.makeAunt(stile, kind, figure);
        return was;
    }

    public int days(int n) {
        if (n < 1) {
            return refuse(BELOW);
        }
        if (n > MOST_DAYS || now.today() + n > LAST_DAY) {
            return refuse(ROOM);
        }
        now.goOn(n);
        return now.today();
    }

    // ---- what pleases when, and who gets where

    public int pleasesThen(int stile, int n) {
        if (!now.hasStile(stile)) {
            return refuse(NOBODY);
        }
        int refused = refusedDaysOn(n);
        return refused != 0 ? refuse(refused) : now.pleasing(stile, n);
    }

    public int openThen(int walker, int n) {
        if (!now.hasWalker(walker)) {
            return refuse(NOBODY);
        }
        int refused = refusedDaysOn(n);
        return refused != 0 ? refuse(refused) : openFor(walker, n);
    }

    public int way(int walker, int field, int what) {
        if (!now.hasWalker(walker) || !isField(field)) {
            return refuse(NOBODY);
        }
        int from = now.fieldOf(walker);
        switch (what) {
            case 0:
                return now.stepsTo(from, field, openFor(walker, 0));
            case 1:
                return now.firstStep(from, field, openFor(walker, 0));
            default:
                return refuse(OTHER);
        }
    }

    public int shy() {
        int shyOnes = 0;
        for (int walker = 0; walker < now.walkers(); walker++) {
            int own = now.fieldOf(walker);
            if (now.reach(own, openFor(walker, 0)) == bit(own)) {
                shyOnes |= bit(walker);
            }
        }
        return shyOnes;
    }

    public int when(int walker, int field) {
        if (!now.hasWalker(walker) || !isField(field)) {
            return refuse(NOBODY);
        }
        for (int n = 0; n <= MOST_DAYS; n++) {
            if (now.hasWay(now.fieldOf(walker), field, openFor(walker, n))) {
                return n;
            }
        }
        return NONE;
    }

    // ---- what one needs

    public int store(int walker, int field) {
        if (!now.hasWalker(walker) || !isField(field)) {
            return refuse(NOBODY);
        }
        taste.lookAt(now, 0);
        for (int size = 0; size <= COMPLIMENTS; size++) {
            int found = leastStoreOf(size, now.fieldOf(walker), field);
            if (found != NONE) {
                return found;
            }
        }
        return NONE;
    }

    public int learn(int walker) {
        if (!now.hasWalker(walker)) {
            return refuse(NOBODY);
        }
        taste.lookAt(now, 0);
        int store = now.storeOf(walker);
        int most = fieldsReached(walker, taste.openWith(store));
        int best = NONE;
        for (int compliment = 0; compliment < COMPLIMENTS; compliment++) {
            int reached = fieldsReached(walker, taste.openWith(store | bit(compliment)));
            if (reached > most) {
                most = reached;
                best = compliment;
            }
        }
        return best;
    }

    public int gate(int walker) {
        if (!now.hasWalker(walker)) {
            return refuse(NOBODY);
        }
        int open = openFor(walker, 0);
        int most = fieldsReached(walker, open);
        int best = NONE;
        for (int stile = 0; stile < now.stiles(); stile++) {
            int reached = fieldsReached(walker, open | bit(stile));
            if (reached > most) {
                most = reached;
                best = stile;
            }
        }
        return best;
    }

    public int needed(int walker, int field) {
        if (!now.hasWalker(walker) || !isField(field)) {
            return refuse(NOBODY);
        }
        int from = now.fieldOf(walker);
        int open = openFor(walker, 0);
        if (!now.hasWay(from, field, open)) {
            return NONE;
        }
        for (int stile = 0; stile < now.stiles(); stile++) {
            if (!now.hasWay(from, field, open & ~bit(stile))) {
                return stile;
            }
        }
        return NONE;
    }

    public int say(int walker, int stile) {
        if (!now.hasWalker(walker) || !now.hasStile(stile)) {
            return refuse(NOBODY);
        }
        if (!now.touches(stile, now.fieldOf(walker))) {
            return refuse(STATE);
        }
        int most = -1;
        int best = NONE;
        int choices = now.storeOf(walker) & now.pleasing(stile, 0);
        for (int compliment = 0; compliment < COMPLIMENTS; compliment++) {
            if (has(choices, compliment)) {
                int left = openAfter(walker, stile, compliment);
                if (left > most) {
                    most = left;
                    best = compliment;
                }
            }
        }
        return best;
    }

    // ---- what the stiles have in common

    public int spent(int what) {
        taste.lookAt(now, 0);
        switch (what) {
            case 0:
                return spentCompliments();
            case 1:
                return rarestCompliment();
            case 2:
                return kindestStile();
            default:
                return refuse(OTHER);
        }
    }

    public int compared(int what) {
        if (what != 0 && what != 1) {
            return refuse(OTHER);
        }
        int twos = 0;
        int first = NONE;
        for (int lesser = 0; lesser < now.stiles(); lesser++) {
            for (int other = lesser + 1; other < now.stiles(); other++) {
                if ((now.saidLately(lesser) & now.saidLately(other)) != 0) {
                    first = twos == 0 ? 10 * lesser + other : first;
                    twos++;
                }
            }
        }
        return what == 0 ? twos : first;
    }

    // ---- walkers on their ways

    public int tour(int walker, int what) {
        if (!now.hasWalker(walker)) {
            return refuse(NOBODY);
        }
        if (what != 0 && what != 1) {
            return refuse(OTHER);
        }
        mind.becomes(now);
        int gone = goOnTour(walker);
        return what == 0 ? Integer.bitCount(gone) : mind.fieldOf(walker);
    }

    public int meet(int what) {
        if (what != 0 && what != 1) {
            return refuse(OTHER);
        }
        int fewest = NONE;
        int best = NONE;
        for (int field = 0; field < FIELDS; field++) {
            int together = stepsOfAllTo(field);
            if (together != NONE && (fewest == NONE || together < fewest)) {
                fewest = together;
                best = field;
            }
        }
        return what == 0 ? best : fewest;
    }

    public int two(int a, int b, int stile) {
        if (!now.hasWalker(a) || !now.hasWalker(b) || a == b || !now.hasStile(stile)) {
            return refuse(NOBODY);
        }
        if (now.fieldOf(a) != now.fieldOf(b) || !now.touches(stile, now.fieldOf(a))) {
            return refuse(STATE);
        }
        for (int pair = 0; pair < 4; pair++) {
            int first = pair / 2;
            int other = pair % 2;
            boolean firstStays = gainOfFirst(a, stile, first) >= gainOfFirst(a, stile, 1 - first);
            boolean otherStays = gainOfOther(a, b, stile, first, other)
                    >= gainOfOther(a, b, stile, first, 1 - other);
            if (firstStays && otherStays) {
                return 10 * first + other;
            }
        }
        return NONE;
    }

    // ---- fractions

    public long hoarse(int walker, int field, int t, int part) {
        if (!now.hasWalker(walker) || !isField(field)) {
            return refuseLong(NOBODY);
        }
        if (t < LEAST_ODDS) {
            return refuseLong(BELOW);
        }
        if (t > MOST_ODDS) {
            return refuseLong(ROOM);
        }
        if (part != 0 && part != 1) {
            return refuseLong(OTHER);
        }
        taste.lookAt(now, 0);
        int store = now.storeOf(walker);
        int from = now.fieldOf(walker);
        long good = 0;
        for (int kept = 0; kept < STORES; kept++) {
            if ((kept & ~store) == 0 && now.hasWay(from, field, taste.openWith(kept))) {
                good += power(t - 1, Integer.bitCount(kept));
            }
        }
        return fractionPart(good, power(t, Integer.bitCount(store)), part);
    }

    public long mean(int part) {
        if (part != 0 && part != 1) {
            return refuseLong(OTHER);
        }
        return fractionPart(now.allInStores(), Math.max(1, now.walkers()), part);
    }

    // ---- rows of numbers

    public int whatIs(int stile, int what) {
        if (!now.hasStile(stile)) {
            return refuse(NOBODY);
        }
        switch (what) {
            case 0:
                return fittingKinds(stile);
            case 1:
                return fittingFigures(stile);
            default:
                return refuse(OTHER);
        }
    }

    public int row(int v) {
        if (v < 0) {
            return refuse(BELOW);
        }
        if (v > GREATEST_IN_ROW || rowLength >= MOST_IN_ROW) {
            return refuse(ROOM);
        }
        rowNumbers.put(rowLength, v);
        rowLength++;
        return rowLength;
    }

    public int judge() {
        int wrong = NONE;
        for (int place = 0; place < rowLength && wrong == NONE; place++) {
            if (!now.hasWalker(place)
                    || Integer.bitCount(openFor(place, 0)) != rowNumbers.get(place)) {
                wrong = place;
            }
        }
        rowLength = 0;
        return wrong;
    }

    public int clear() {
        int had = rowLength;
        rowLength = 0;
        return had;
    }

    // ---- lots, the image, counts

    public int lots(int n, int z, int what) {
        if (n < 1) {
            return refuse(BELOW);
        }
        if (n > MOST_WEEKS) {
            return refuse(ROOM);
        }
        if (what != 0 && what != 1) {
            return refuse(OTHER);
        }
        if (now.walkers() == 0 || now.stiles() == 0) {
            return refuse(STATE);
        }
        seed = z;
        int overs = 0;
        int opens = 0;
        for (int week = 0; week < n; week++) {
            mind.becomes(now);
            overs += weekByLot();
            taste.lookAt(mind, 0);
            opens += Integer.bitCount(taste.openWith(mind.storeOf(0)));
        }
        return what == 0 ? overs : opens;
    }

    public int image() {
        picture.becomes(now);
        pictured = true;
        return now.today();
    }

    public int on() {
        if (!pictured) {
            return refuse(STATE);
        }
        now.becomes(picture);
        return now.today();
    }

    public int count(int what) {
        switch (what) {
            case 0:
                return now.stiles();
            case 1:
                return now.walkers();
            case 2:
                return now.today();
            case 3:
                return now.over();
            case 4:
                return now.allInStores();
            case 5:
                return now.allSaid();
            case 6:
                return rowLength;
            case 7:
                return text.length();
            default:
                return countOfRefusals(what);
        }
    }

    // ---- refusals and small tests

    private int refuse(int number) {
        refusals.put(-number, refusals.get(-number) + 1);
        return number;
    }

    private long refuseLong(int number) {
        return REFUSED_LONG - refuse(number);
    }

    private int countOfRefusals(int what) {
        int number = what - FIRST_REFUSAL_COUNT + 1;
        boolean counted = what >= FIRST_REFUSAL_COUNT && number < REFUSALS;
        return counted ? refusals.get(number) : NONE;
    }

    /** What a number of days on is refused with, 0 if it is not. */
    private static int refusedDaysOn(int n) {
        if (n < 0) {
            return BELOW;
        }
        return n > MOST_DAYS ? ROOM : 0;
    }

    private static boolean isField(int field) {
        return field >= 0 && field < FIELDS;
    }

    private static boolean isCompliment(int compliment) {
        return compliment >= 0 && compliment < COMPLIMENTS;
    }

    private static int bit(int number) {
        return 1 << number;
    }

    private static boolean has(int bits, int number) {
        return (bits & bit(number)) != 0;
    }

    /** The least compliment in the bits, NONE if they are empty. */
    private static int least(int bits) {
        for (int compliment = 0; compliment < COMPLIMENTS; compliment++) {
            if (has(bits, compliment)) {
                return compliment;
            }
        }
        return NONE;
    }

    // ---- parts of the answers

    private int openFor(int walker, int ahead) {
        taste.lookAt(now, ahead);
        return taste.openWith(now.storeOf(walker));
    }

    private int callsAt(int stile) {
        int pleasing = now.pleasing(stile, 0);
        int calls = 0;
        for (int walker = 0; walker < now.walkers(); walker++) {
            calls += (now.storeOf(walker) & pleasing) != 0 ? 1 : 0;
        }
        return calls;
    }

    private int fieldsReached(int walker, int open) {
        return Integer.bitCount(now.reach(now.fieldOf(walker), open));
    }

    /** The least store of so many compliments that leads there, by the taste looked at. */
    private int leastStoreOf(int size, int from, int to) {
        for (int store = 0; store < STORES; store++) {
            if (Integer.bitCount(store) == size && now.hasWay(from, to, taste.openWith(store))) {
                return store;
            }
        }
        return NONE;
    }

    /** How many stiles are open for him when he has said it there. */
    private int openAfter(int walker, int stile, int compliment) {
        mind.becomes(now);
        mind.speak(walker, stile, compliment);
        taste.lookAt(mind, 0);
        return Integer.bitCount(taste.openWith(mind.storeOf(walker)));
    }

    private int spentCompliments() {
        int spentOnes = 0;
        for (int compliment = 0; compliment < COMPLIMENTS; compliment++) {
            if (taste.openWith(bit(compliment)) == 0) {
                spentOnes |= bit(compliment);
            }
        }
        return spentOnes;
    }

    private int rarestCompliment() {
        int rarest = 0;
        int fewest = STILES + 1;
        for (int compliment = 0; compliment < COMPLIMENTS; compliment++) {
            int at = Integer.bitCount(taste.openWith(bit(compliment)));
            if (at < fewest) {
                fewest = at;
                rarest = compliment;
            }
        }
        return rarest;
    }

    private int kindestStile() {
        int kindest = NONE;
        int most = -1;
        for (int stile = 0; stile < now.stiles(); stile++) {
            int pleasing = Integer.bitCount(taste.pleasingAt(stile));
            if (pleasing > most) {
                most = pleasing;
                kindest = stile;
            }
        }
        return kindest;
    }

    /** Leads the walker in mind over stile by stile; the stiles he went over, as bits. */
    private int goOnTour(int walker) {
        int gone = 0;
        for (int step = 0; step < STILES; step++) {
            int stile = nextOnTour(walker, gone);
            if (stile == NONE) {
                return gone;
            }
            mind.speak(walker, stile, least(mind.pleasingFrom(walker, stile)));
            gone |= bit(stile);
        }
        return gone;
    }

    private int nextOnTour(int walker, int gone) {
        for (int stile = 0; stile < mind.stiles(); stile++) {
            if (!has(gone, stile) && mind.touches(stile, mind.fieldOf(walker))
                    && mind.pleasingFrom(walker, stile) != 0) {
                return stile;
            }
        }
        return NONE;
    }

    /** How many stiles all walkers go over to it together, NONE if one does not come there. */
    private int stepsOfAllTo(int field) {
        int together = 0;
        for (int walker = 0; walker < now.walkers(); walker++) {
            int steps = now.stepsTo(now.fieldOf(walker), field, openFor(walker, 0));
            if (steps == NONE) {
                return NONE;
            }
            together += steps;
        }
        return together;
    }

    private int gainOfFirst(int a, int stile, int choice) {
        if (choice == 0) {
            return 0;
        }
        return now.pleasingFrom(a, stile) != 0 ? 1 : -1;
    }

    /** What the other one has: what he says was chosen before the first one spoke. */
    private int gainOfOther(int a, int b, int stile, int first, int choice) {
        if (choice == 0) {
            return 0;
        }
        int mine = least(now.pleasingFrom(b, stile));
        int ahead = least(now.pleasingFrom(a, stile));
        if (mine == NONE) {
            return -1;
        }
        mind.becomes(now);
        if (first == 1 && ahead != NONE) {
            mind.speak(a, stile, ahead);
        }
        return has(mind.pleasing(stile, 0), mine) ? 1 : -1;
    }

    private static long power(int base, int exponent) {
        long product = 1;
        for (int i = 0; i < exponent; i++) {
            product *= base;
        }
        return product;
    }

    private static long fractionPart(long above, long below, int part) {
        long common = greatestCommon(above, below);
        if (common <= 0) {
            return part;
        }
        return part == 0 ? above / common : below / common;
    }

    private static long greatestCommon(long one, long other) {
        long greater = one;
        long lesser = other;
        for (int i = 0; i < EUCLID_STEPS && lesser != 0; i++) {
            long rest = greater % lesser;
            greater = lesser;
            lesser = rest;
        }
        return greater;
    }

    private int fittingKinds(int stile) {
        int fitting = 0;
        for (int kind = 0; kind < KINDS; kind++) {
            if (rowFits(stile, kind, now.figureOf(stile))) {
                fitting |= bit(kind);
            }
        }
        return fitting;
    }

    private int fittingFigures(int stile) {
        int fitting = 0;
        for (int figure = 0; figure < FIGURES; figure++) {
            if (rowFits(stile, now.kindOf(stile), figure)) {
                fitting |= bit(figure);
            }
        }
        return fitting;
    }

    private boolean rowFits(int stile, int kind, int figure) {
        for (int ahead = 0; ahead < rowLength; ahead++) {
            if (now.pleasingAs(kind, figure, stile, ahead) != rowNumbers.get(ahead)) {
                return false;
            }
        }
        return true;
    }

    /** A week in mind; how often somebody got over on it. */
    private int weekByLot() {
        int overs = 0;
        for (int time = 0; time < TIMES_A_WEEK; time++) {
            int walker = draw(mind.walkers());
            int stile = draw(mind.stiles());
            int compliment = draw(COMPLIMENTS);
            overs += mind.speak(walker, stile, compliment) == 1 ? 1 : 0;
            mind.goOn(1);
        }
        return overs;
    }

    private int draw(int below) {
        seed = seed * 1664525 + 1013904223;
        return below <= 0 ? 0 : (seed & WITHOUT_SIGN) / 256 % below;
    }

    // ---- the classes inside

    /** A row of numbers that is 0 where it has no place. */
    private static final class Cells {
        private final int[] cells;

        Cells(int size) {
            cells = new int[size < 0 ? 0 : size];
        }

        int get(int place) {
            return place >= 0 && place < cells.length ? cells[place] : 0;
        }

        void put(int place, int value) {
            if (place >= 0 && place < cells.length) {
                cells[place] = value;
            }
        }

        void copy(Cells other) {
            for (int place = 0; place < cells.length; place++) {
                put(place, other.get(place));
            }
        }
    }

    /** The kinds of aunts; "here" and "anywhere" are the days since the compliment was said. */
    private enum Kind {
        AUNT('a') {
            boolean pleased(int figure, int compliment, int here, int anywhere) {
                return likesAsAunt(figure, compliment, here);
            }
        },
        SOUR('s') {
            boolean pleased(int figure, int compliment, int here, int anywhere) {
                return likesAsAunt(figure, compliment, here) && compliment % 2 == figure % 2;
            }
        },
        PLAIN('p') {
            boolean pleased(int figure, int compliment, int here, int anywhere) {
                return compliment == figure % COMPLIMENTS;
            }
        },
        YOUNG('y') {
            boolean pleased(int figure, int compliment, int here, int anywhere) {
                return likesAsYoung(here);
            }
        },
        GOSSIP('g') {
            boolean pleased(int figure, int compliment, int here, int anywhere) {
                return likesAsAunt(figure, compliment, here) && anywhere > GOSSIP_WITHIN;
            }
        },
        DEAF('d') {
            boolean pleased(int figure, int compliment, int here, int anywhere) {
                return figure > DEAF_ABOVE || likesAsYoung(here);
            }
        };

        private static final Kind[] ALL = values();

        private final int sign;

        Kind(int sign) {
            this.sign = sign;
        }

        abstract boolean pleased(int figure, int compliment, int here, int anywhere);

        static boolean likesAsAunt(int figure, int compliment, int here) {
            return here >= NEW_AFTER && compliment != figure % COMPLIMENTS;
        }

        static boolean likesAsYoung(int here) {
            return here >= YOUNG_AFTER;
        }

        static Kind numbered(int number) {
            return number >= 0 && number < ALL.length ? ALL[number] : AUNT;
        }

        /** The number of the kind with this letter, NONE if there is none. */
        static int numberOf(int letter) {
            for (int number = 0; number < KINDS; number++) {
                if (numbered(number).sign == letter) {
                    return number;
                }
            }
            return NONE;
        }
    }

    /** All that an image keeps: stiles, walkers, what was said, the day. */
    private static final class County {
        private final Cells kinds;
        private final Cells figures;
        private final Cells oneFields;
        private final Cells otherFields;
        /** The day each compliment was said at each stile, and 1; 0 is never. */
        private final Cells saidDays;
        private final Cells stores;
        private final Cells places;
        private int stiles;
        private int walkers;
        private int over;
        private int today;

        County() {
            kinds = new Cells(STILES);
            figures = new Cells(STILES);
            oneFields = new Cells(STILES);
            otherFields = new Cells(STILES);
            saidDays = new Cells(STILES * COMPLIMENTS);
            stores = new Cells(WALKERS);
            places = new Cells(WALKERS);
        }

        void becomes(County other) {
            kinds.copy(other.kinds);
            figures.copy(other.figures);
            oneFields.copy(other.oneFields);
            otherFields.copy(other.otherFields);
            saidDays.copy(other.saidDays);
            stores.copy(other.stores);
            places.copy(other.places);
            stiles = other.stiles;
            walkers = other.walkers;
            over = other.over;
            today = other.today;
        }

        int stiles() {
            return stiles;
        }

        int walkers() {
            return walkers;
        }

        int over() {
            return over;
        }

        int today() {
            return today;
        }

        boolean hasStile(int stile) {
            return stile >= 0 && stile < stiles;
        }

        boolean hasWalker(int walker) {
            return walker >= 0 && walker < walkers;
        }

        int kindOf(int stile) {
            return kinds.get(stile);
        }

        int figureOf(int stile) {
            return figures.get(stile);
        }

        int oneFieldOf(int stile) {
            return oneFields.get(stile);
        }

        int otherFieldOf(int stile) {
            return otherFields.get(stile);
        }

        int storeOf(int walker) {
            return stores.get(walker);
        }

        int fieldOf(int walker) {
            return places.get(walker);
        }

        // -- changes

        boolean addStile(int kind, int figure, int one, int other) {
            if (stiles >= STILES || !isField(one) || !isField(other) || one == other) {
                return false;
            }
            makeAunt(stiles, kind, figure);
            oneFields.put(stiles, one);
            otherFields.put(stiles, other);
            stiles++;
            return true;
        }

        boolean addWalker(int store, int field) {
            if (walkers >= WALKERS || store < 0 || store >= STORES || !isField(field)) {
                return false;
            }
            stores.put(walkers, store);
            places.put(walkers, field);
            walkers++;
            return true;
        }

        void makeAunt(int stile, int kind, int figure) {
            kinds.put(stile, kind);
            figures.put(stile, figure);
        }

        void changeStore(int walker, int compliment) {
            stores.put(walker, stores.get(walker) ^ bit(compliment));
        }

        void place(int walker, int field) {
            places.put(walker, field);
        }

        void goOn(int days) {
            today += days;
        }

        void forgetAll(int stile) {
            for (int compliment = 0; compliment < COMPLIMENTS; compliment++) {
                saidDays.put(cell(stile, compliment), 0);
            }
        }

        /** He says it there: 1 if he gets over, 0 if not, STATE if he can not say it. */
        int speak(int walker, int stile, int compliment) {
            int field = fieldOf(walker);
            if (!hasWalker(walker) || !hasStile(stile) || !isCompliment(compliment)
                    || !touches(stile, field) || !has(storeOf(walker), compliment)) {
                return STATE;
            }
            boolean pleased = has(pleasing(stile, 0), compliment);
            saidDays.put(cell(stile, compliment), today + 1);
            if (!pleased) {
                return 0;
            }
            place(walker, acrossFrom(stile, field));
            over = Math.min(over + 1, MOST_OVER);
            return 1;
        }

        // -- what was said, and what pleases

        private static int cell(int stile, int compliment) {
            return stile * COMPLIMENTS + compliment;
        }

        /** Days from its last saying there to so many days ahead; LONG_AGO if never. */
        int daysSince(int stile, int compliment, int ahead) {
            return daysFrom(saidDays.get(cell(stile, compliment)), ahead);
        }

        int daysSinceAnywhere(int compliment, int ahead) {
            int latest = 0;
            for (int stile = 0; stile < stiles; stile++) {
                latest = Math.max(latest, saidDays.get(cell(stile, compliment)));
            }
            return daysFrom(latest, ahead);
        }

        private int daysFrom(int said, int ahead) {
            return said == 0 ? LONG_AGO : today + ahead - (said - 1);
        }

        int saidAt(int stile) {
            int many = 0;
            for (int compliment = 0; compliment < COMPLIMENTS; compliment++) {
                many += daysSince(stile, compliment, 0) < LONG_AGO ? 1 : 0;
            }
            return many;
        }

        int allSaid() {
            int many = 0;
            for (int stile = 0; stile < stiles; stile++) {
                many += saidAt(stile);
            }
            return many;
        }

        int allInStores() {
            int many = 0;
            for (int walker = 0; walker < walkers; walker++) {
                many += Integer.bitCount(storeOf(walker));
            }
            return many;
        }

        int saidLately(int stile) {
            int lately = 0;
            for (int compliment = 0; compliment < COMPLIMENTS; compliment++) {
                if (daysSince(stile, compliment, 0) <= COMPARED_WITHIN) {
                    lately |= bit(compliment);
                }
            }
            return lately;
        }

        int pleasing(int stile, int ahead) {
            return pleasingAs(kindOf(stile), figureOf(stile), stile, ahead);
        }

        int pleasingFrom(int walker, int stile) {
            return storeOf(walker) & pleasing(stile, 0);
        }

        /** What would please there if the aunt were of this kind and figure. */
        int pleasingAs(int kind, int figure, int stile, int ahead) {
            Kind aunt = Kind.numbered(kind);
            int pleasing = 0;
            for (int compliment = 0; compliment < COMPLIMENTS; compliment++) {
                int here = daysSince(stile, compliment, ahead);
                int anywhere = aunt == Kind.GOSSIP ? daysSinceAnywhere(compliment, ahead) : here;
                if (aunt.pleased(figure, compliment, here, anywhere)) {
                    pleasing |= bit(compliment);
                }
            }
            return pleasing;
        }

        // -- fields and stiles between them

        boolean touches(int stile, int field) {
            return oneFieldOf(stile) == field || otherFieldOf(stile) == field;
        }

        int acrossFrom(int stile, int field) {
            return oneFieldOf(stile) == field ? otherFieldOf(stile) : oneFieldOf(stile);
        }

        /** The fields, and those one open stile away from them. */
        private int widened(int fields, int open) {
            int wider = fields;
            for (int stile = 0; stile < stiles; stile++) {
                if (has(open, stile)) {
                    int one = oneFieldOf(stile);
                    int other = otherFieldOf(stile);
                    wider |= has(fields, one) ? bit(other) : 0;
                    wider |= has(fields, other) ? bit(one) : 0;
                }
            }
            return wider;
        }

        int reach(int from, int open) {
            int fields = bit(from);
            for (int step = 1; step < FIELDS; step++) {
                fields = widened(fields, open);
            }
            return fields;
        }

        boolean hasWay(int from, int to, int open) {
            return has(reach(from, open), to);
        }

        int stepsTo(int from, int to, int open) {
            int fields = bit(from);
            for (int steps = 0; steps < FIELDS; steps++) {
                if (has(fields, to)) {
                    return steps;
                }
                fields = widened(fields, open);
            }
            return NONE;
        }

        int firstStep(int from, int to, int open) {
            int steps = stepsTo(from, to, open);
            for (int stile = 0; stile < stiles && steps > 0; stile++) {
                if (has(open, stile) && touches(stile, from)
                        && stepsTo(acrossFrom(stile, from), to, open) == steps - 1) {
                    return stile;
                }
            }
            return NONE;
        }
    }

    /** What pleases at each stile of a county at one time. */
    private static final class Taste {
        private final Cells pleasing;
        private int stiles;

        Taste() {
            pleasing = new Cells(STILES);
        }

        void lookAt(County county, int ahead) {
            stiles = county.stiles();
            for (int stile = 0; stile < stiles; stile++) {
                pleasing.put(stile, county.pleasing(stile, ahead));
            }
        }

        int pleasingAt(int stile) {
            return pleasing.get(stile);
        }

        /** The stiles at which something of the store pleases. */
        int openWith(int store) {
            int open = 0;
            for (int stile = 0; stile < stiles; stile++) {
                if ((pleasing.get(stile) & store) != 0) {
                    open |= bit(stile);
                }
            }
            return open;
        }
    }

    /** The letters told so far. */
    private static final class Text {
        private static final int END = -1;
        private static final char A_KIND = 'k';
        private static final char A_DIGIT = '0';

        private final Cells letters;
        private int length;

        Text() {
            letters = new Cells(MOST_LETTERS);
        }

        int length() {
            return length;
        }

        boolean isFull() {
            return length >= MOST_LETTERS;
        }

        void add(int letter) {
            letters.put(length, letter);
            length++;
        }

        void empty() {
            length = 0;
        }

        private int letterAt(int place) {
            return place < length ? letters.get(place) : END;
        }

        private int digitAt(int place) {
            return letterAt(place) - '0';
        }

        private int twoDigitsAt(int place) {
            return 10 * digitAt(place) + digitAt(place + 1);
        }

        /** What stands behind a statement's first letter; nothing if none begins so. */
        private static String shapeOf(int first) {
            switch (first) {
                case 's':
                    return "k000;";
                case 'w':
                case 'c':
                    return "000;";
                case 'k':
                case 'd':
                    return "00;";
                case 'f':
                    return "0;";
                default:
                    return "";
            }
        }

        private static boolean fits(int wanted, int letter) {
            switch (wanted) {
                case A_KIND:
                    return Kind.numberOf(letter) != NONE;
                case A_DIGIT:
                    return letter >= '0' && letter <= '9';
                default:
                    return letter == wanted;
            }
        }

        /** Where no county can go on, NONE if the letters are whole statements. */
        int firstWrongLetter() {
            int place = 0;
            do {
                String shape = shapeOf(letterAt(place));
                if (shape.isEmpty()) {
                    return place;
                }
                place++;
                for (int i = 0; i < shape.length(); i++) {
                    if (!fits(shape.charAt(i), letterAt(place))) {
                        return place;
                    }
                    place++;
                }
            } while (place < length);
            return NONE;
        }

        /** Tells the county all statements: how many, or the fault at which it stopped. */
        int tellTo(County county) {
            int told = 0;
            int place = 0;
            while (place < length) {
                if (!tellOne(county, place)) {
                    return WRONG_STATEMENT - place;
                }
                place += 1 + shapeOf(letterAt(place)).length();
                told++;
            }
            return told;
        }

        private boolean tellOne(County county, int place) {
            switch (letterAt(place)) {
                case 's':
                    return county.addStile(Kind.numberOf(letterAt(place + 1)),
                            digitAt(place + 2), digitAt(place + 3), digitAt(place + 4));
                case 'w':
                    return county.addWalker(twoDigitsAt(place + 1), digitAt(place + 3));
                case 'c':
                    return county.speak(digitAt(place + 1), digitAt(place + 2),
                            digitAt(place + 3)) != STATE;
                case 'k':
                    return tellLearning(county, digitAt(place + 1), digitAt(place + 2));
                case 'f':
                    return tellForgetting(county, digitAt(place + 1));
                default:
                    return tellDays(county, twoDigitsAt(place + 1));
            }
        }

        private static boolean tellLearning(County county, int walker, int compliment) {
            boolean can = county.hasWalker(walker) && isCompliment(compliment);
            if (can) {
                county.changeStore(walker, compliment);
            }
            return can;
        }

        private static boolean tellForgetting(County county, int stile) {
            boolean can = county.hasStile(stile);
            if (can) {
                county.forgetAll(stile);
            }
            return can;
        }

        private static boolean tellDays(County county, int days) {
            boolean can = days >= 1 && days <= MOST_DAYS && county.today() + days <= LAST_DAY;
            if (can) {
                county.goOn(days);
            }
            return can;
        }
    }
}
