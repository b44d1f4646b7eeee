import java.util.ArrayList;
import java.util.Arrays;
import java.util.List;

/** Long runs of calls, each answer compared with that of a slow second program made from the document. */
public final class ModelTests {
    private static final int RUNS = 160;
    private static final int CALLS = 512;
    private static final int AFTERWARDS = 40;

    private static int wrong = 0;
    private static int dice = 20261119;

    /** Several numbers from one fixed start, so that every run is the same again. */
    private static int roll(int below) {
        dice = dice * 22695477 + 1;
        return (dice >>> 9) % below;
    }

    private static void due(int run, String call, long got, long want) {
        if (got != want) {
            wrong++;
            if (wrong <= 40) {
                System.out.println("run " + run + ": " + call + " answered " + got + ", due is " + want);
            }
        }
    }

    /** An argument: mostly one that is in range, now and then just or far outside. */
    private static int near(int least, int greatest) {
        int chance = roll(40);
        if (chance == 0) {
            return least - 1;
        }
        if (chance == 1) {
            return greatest + 1;
        }
        if (chance == 2) {
            int[] far = {Integer.MIN_VALUE, Integer.MAX_VALUE, -7, 1000, 1 << 20};
            return far[roll(far.length)];
        }
        return least + roll(greatest - least + 1);
    }

    // ---- the second program

    private static final class Aunt {
        char kind;
        int figure;
        int one;
        int other;
        Integer[] said = new Integer[6];

        Aunt copy() {
            Aunt copy = new Aunt();
            copy.kind = kind;
            copy.figure = figure;
            copy.one = one;
            copy.other = other;
            copy.said = said.clone();
            return copy;
        }
    }

    private static final class Walker {
        int store;
        int field;

        Walker copy() {
            Walker copy = new Walker();
            copy.store = store;
            copy.field = field;
            return copy;
        }
    }

    private static final class World {
        List<Aunt> aunts = new ArrayList<>();
        List<Walker> walkers = new ArrayList<>();
        int over;
        int day;

        World copy() {
            World copy = new World();
            for (Aunt a : aunts) {
                copy.aunts.add(a.copy());
            }
            for (Walker w : walkers) {
                copy.walkers.add(w.copy());
            }
            copy.over = over;
            copy.day = day;
            return copy;
        }

        boolean fresh(Aunt a, int c, int days, int at) {
            return a.said[c] == null || at - a.said[c] >= days;
        }

        boolean pleases(Aunt a, char kind, int figure, int c, int ahead) {
            int at = day + ahead;
            switch (kind) {
                case 'a':
                    return fresh(a, c, 7, at) && c != figure % 6;
                case 's':
                    return pleases(a, 'a', figure, c, ahead) && (c & 1) == (figure & 1);
                case 'p':
                    return c == figure % 6;
                case 'y':
                    return fresh(a, c, 3, at);
                case 'g':
                    if (!pleases(a, 'a', figure, c, ahead)) {
                        return false;
                    }
                    for (Aunt any : aunts) {
                        if (any.said[c] != null && at - any.said[c] <= 1) {
                            return false;
                        }
                    }
                    return true;
                default:
                    return figure >= 5 || pleases(a, 'y', figure, c, ahead);
            }
        }

        int pleasing(Aunt a, int ahead) {
            return pleasing(a, a.kind, a.figure, ahead);
        }

        int pleasing(Aunt a, char kind, int figure, int ahead) {
            int bits = 0;
            for (int c = 0; c < 6; c++) {
                if (pleases(a, kind, figure, c, ahead)) {
                    bits += 1 << c;
                }
            }
            return bits;
        }

        int open(int store, int ahead) {
            int bits = 0;
            for (int s = 0; s < aunts.size(); s++) {
                if ((pleasing(aunts.get(s), ahead) & store) != 0) {
                    bits += 1 << s;
                }
            }
            return bits;
        }

        boolean can(int w, int s, int c) {
            Aunt a = aunts.get(s);
            Walker walker = walkers.get(w);
            return (walker.field == a.one || walker.field == a.other) && (walker.store >> c & 1) == 1;
        }

        boolean speak(int w, int s, int c) {
            Aunt a = aunts.get(s);
            boolean pleased = pleases(a, a.kind, a.figure, c, 0);
            a.said[c] = day;
            if (pleased) {
                Walker walker = walkers.get(w);
                walker.field = walker.field == a.one ? a.other : a.one;
                over = Math.min(9999, over + 1);
            }
            return pleased;
        }

        /** The fewest stiles between all fields; 99 is no way. */
        int[][] distances(int open) {
            int[][] far = new int[8][8];
            for (int f = 0; f < 8; f++) {
                Arrays.fill(far[f], 99);
                far[f][f] = 0;
            }
            for (int s = 0; s < aunts.size(); s++) {
                if ((open >> s & 1) == 1) {
                    far[aunts.get(s).one][aunts.get(s).other] = 1;
                    far[aunts.get(s).other][aunts.get(s).one] = 1;
                }
            }
            for (int k = 0; k < 8; k++) {
                for (int i = 0; i < 8; i++) {
                    for (int j = 0; j < 8; j++) {
                        far[i][j] = Math.min(far[i][j], far[i][k] + far[k][j]);
                    }
                }
            }
            return far;
        }

        boolean way(int from, int to, int open) {
            return distances(open)[from][to] < 99;
        }

        int reach(int from, int open) {
            int bits = 0;
            for (int f = 0; f < 8; f++) {
                bits += way(from, f, open) ? 1 << f : 0;
            }
            return bits;
        }

        /** The least sequence of exactly so many stiles that leads there, or null. */
        List<Integer> sequence(int from, int to, int open, int length) {
            if (length == 0) {
                return from == to ? new ArrayList<>() : null;
            }
            for (int s = 0; s < aunts.size(); s++) {
                Aunt a = aunts.get(s);
                if ((open >> s & 1) == 1 && (a.one == from || a.other == from)) {
                    List<Integer> rest = sequence(a.one == from ? a.other : a.one, to, open, length - 1);
                    if (rest != null) {
                        rest.add(0, s);
                        return rest;
                    }
                }
            }
            return null;
        }
    }

    private static final class Model {
        World w = new World();
        World image;
        String letters = "";
        List<Integer> row = new ArrayList<>();
        int[] refused = new int[7];

        int no(int number) {
            refused[-number]++;
            return number;
        }

        long noLong(int number) {
            return 4000000000000000000L - no(number);
        }

        boolean noStile(int s) {
            return s < 0 || s >= w.aunts.size();
        }

        boolean noWalker(int n) {
            return n < 0 || n >= w.walkers.size();
        }

        boolean noField(int f) {
            return f < 0 || f > 7;
        }

        boolean noCompliment(int c) {
            return c < 0 || c > 5;
        }

        int letter(int c) {
            if (c < 0) {
                return no(-4);
            }
            if (c > 255 || letters.length() == 96) {
                return no(-6);
            }
            letters += (char) c;
            return letters.length();
        }

        int county() {
            String text = letters;
            letters = "";
            String one = "s[aspygd]\\d\\d\\d;|[wc]\\d\\d\\d;|[kd]\\d\\d;|f\\d;";
            if (!text.matches("(" + one + ")+")) {
                return -1000 - longestBeginning(text);
            }
            World then = w.copy();
            int place = 0;
            int many = 0;
            for (String statement : text.split(";")) {
                if (!tell(then, statement)) {
                    return -2000 - place;
                }
                place += statement.length() + 1;
                many++;
            }
            w = then;
            return many;
        }

        /** The longest beginning of the text from which some filling makes a county. */
        int longestBeginning(String text) {
            String[] shapes = {"sa000;", "w000;", "c000;", "k00;", "d00;", "f0;"};
            int place = 0;
            while (place < text.length()) {
                String fitting = null;
                for (String shape : shapes) {
                    fitting = shape.charAt(0) == text.charAt(place) ? shape : fitting;
                }
                if (fitting == null) {
                    return place;
                }
                for (int i = 1; i < fitting.length(); i++) {
                    if (place + i >= text.length()) {
                        return text.length();
                    }
                    char is = text.charAt(place + i);
                    char as = fitting.charAt(i);
                    boolean good = as == '0' ? "0123456789".indexOf(is) >= 0
                            : as == 'a' ? "aspygd".indexOf(is) >= 0 : is == as;
                    if (!good) {
                        return place + i;
                    }
                }
                place += fitting.length();
            }
            return place;
        }

        static boolean tell(World then, String t) {
            int[] d = new int[6];
            for (int i = 1; i < t.length(); i++) {
                d[i] = t.charAt(i) - '0';
            }
            switch (t.charAt(0)) {
                case 's':
                    if (then.aunts.size() == 9 || d[3] > 7 || d[4] > 7 || d[3] == d[4]) {
                        return false;
                    }
                    Aunt a = new Aunt();
                    a.kind = t.charAt(1);
                    a.figure = d[2];
                    a.one = d[3];
                    a.other = d[4];
                    then.aunts.add(a);
                    return true;
                case 'w':
                    if (then.walkers.size() == 5 || d[1] * 10 + d[2] > 63 || d[3] > 7) {
                        return false;
                    }
                    Walker n = new Walker();
                    n.store = d[1] * 10 + d[2];
                    n.field = d[3];
                    then.walkers.add(n);
                    return true;
                case 'c':
                    if (d[1] >= then.walkers.size() || d[2] >= then.aunts.size() || d[3] > 5
                            || !then.can(d[1], d[2], d[3])) {
                        return false;
                    }
                    then.speak(d[1], d[2], d[3]);
                    return true;
                case 'k':
                    if (d[1] >= then.walkers.size() || d[2] > 5) {
                        return false;
                    }
                    then.walkers.get(d[1]).store ^= 1 << d[2];
                    return true;
                case 'f':
                    if (d[1] >= then.aunts.size()) {
                        return false;
                    }
                    then.aunts.get(d[1]).said = new Integer[6];
                    return true;
                default:
                    int days = d[1] * 10 + d[2];
                    if (days < 1 || days > 60 || then.day + days > 999) {
                        return false;
                    }
                    then.day += days;
                    return true;
            }
        }

        int stile(int s, int what) {
            if (noStile(s)) {
                return no(-1);
            }
            if (what < 0 || what > 5) {
                return no(-2);
            }
            Aunt a = w.aunts.get(s);
            int calls = 0;
            for (Walker walker : w.walkers) {
                calls += w.open(walker.store, 0) >> s & 1;
            }
            return new int[] {"aspygd".indexOf(a.kind), a.figure, a.one, a.other, w.pleasing(a, 0), calls}[what];
        }

        int walker(int n, int what) {
            if (noWalker(n)) {
                return no(-1);
            }
            if (what < 0 || what > 3) {
                return no(-2);
            }
            Walker walker = w.walkers.get(n);
            int open = w.open(walker.store, 0);
            return new int[] {walker.store, walker.field, open, w.reach(walker.field, open)}[what];
        }

        int last(int s, int c) {
            if (noStile(s) || noCompliment(c)) {
                return no(-1);
            }
            Integer said = w.aunts.get(s).said[c];
            return said == null ? -9 : w.day - said;
        }

        int says(int n, int s, int c) {
            if (noWalker(n) || noStile(s) || noCompliment(c)) {
                return no(-1);
            }
            if (!w.can(n, s, c)) {
                return no(-3);
            }
            return w.speak(n, s, c) ? 1 : 0;
        }

        int learns(int n, int c) {
            if (noWalker(n) || noCompliment(c)) {
                return no(-1);
            }
            w.walkers.get(n).store ^= 1 << c;
            return w.walkers.get(n).store;
        }

        int saidAt(Aunt a) {
            int many = 0;
            for (Integer said : a.said) {
                many += said != null ? 1 : 0;
            }
            return many;
        }

        int forgets(int s) {
            if (noStile(s)) {
                return no(-1);
            }
            int were = saidAt(w.aunts.get(s));
            w.aunts.get(s).said = new Integer[6];
            return were;
        }

        int stands(int n, int f) {
            if (noWalker(n) || noField(f)) {
                return no(-1);
            }
            int was = w.walkers.get(n).field;
            w.walkers.get(n).field = f;
            return was;
        }

        int turn(int s, int kind, int figure) {
            if (noStile(s)) {
                return no(-1);
            }
            if (kind < 0 || kind > 5) {
                return no(-2);
            }
            if (figure < 0) {
                return no(-4);
            }
            if (figure > 9) {
                return no(-6);
            }
            Aunt a = w.aunts.get(s);
            int was = "aspygd".indexOf(a.kind) * 10 + a.figure;
            a.kind = "aspygd".charAt(kind);
            a.figure = figure;
            return was;
        }

        int days(int n) {
            if (n < 1) {
                return no(-4);
            }
            if (n > 60 || w.day + n > 999) {
                return no(-6);
            }
            w.day += n;
            return w.day;
        }

        int pleasesThen(int s, int n) {
            if (noStile(s)) {
                return no(-1);
            }
            return n < 0 ? no(-4) : n > 60 ? no(-6) : w.pleasing(w.aunts.get(s), n);
        }

        int openThen(int n, int ahead) {
            if (noWalker(n)) {
                return no(-1);
            }
            return ahead < 0 ? no(-4) : ahead > 60 ? no(-6) : w.open(w.walkers.get(n).store, ahead);
        }

        int way(int n, int f, int what) {
            if (noWalker(n) || noField(f)) {
                return no(-1);
            }
            if (what != 0 && what != 1) {
                return no(-2);
            }
            Walker walker = w.walkers.get(n);
            int open = w.open(walker.store, 0);
            int steps = w.distances(open)[walker.field][f];
            if (steps == 99) {
                return -9;
            }
            List<Integer> least = w.sequence(walker.field, f, open, steps);
            return what == 0 ? least.size() : least.isEmpty() ? -9 : least.get(0);
        }

        int shy() {
            int bits = 0;
            for (int n = 0; n < w.walkers.size(); n++) {
                Walker walker = w.walkers.get(n);
                boolean goes = false;
                for (int s = 0; s < w.aunts.size(); s++) {
                    Aunt a = w.aunts.get(s);
                    goes |= (a.one == walker.field || a.other == walker.field)
                            && (w.pleasing(a, 0) & walker.store) != 0;
                }
                bits += goes ? 0 : 1 << n;
            }
            return bits;
        }

        int when(int n, int f) {
            if (noWalker(n) || noField(f)) {
                return no(-1);
            }
            Walker walker = w.walkers.get(n);
            for (int ahead = 0; ahead <= 60; ahead++) {
                if (w.way(walker.field, f, w.open(walker.store, ahead))) {
                    return ahead;
                }
            }
            return -9;
        }

        int store(int n, int f) {
            if (noWalker(n) || noField(f)) {
                return no(-1);
            }
            int best = -9;
            for (int store = 63; store >= 0; store--) {
                if (w.way(w.walkers.get(n).field, f, w.open(store, 0))
                        && (best == -9 || Integer.bitCount(store) <= Integer.bitCount(best))) {
                    best = store;
                }
            }
            return best;
        }

        int learn(int n) {
            if (noWalker(n)) {
                return no(-1);
            }
            Walker walker = w.walkers.get(n);
            int[] size = new int[7];
            for (int c = 0; c <= 6; c++) {
                int store = c < 6 ? walker.store | 1 << c : walker.store;
                size[c] = Integer.bitCount(w.reach(walker.field, w.open(store, 0)));
            }
            int most = Arrays.stream(size).max().getAsInt();
            for (int c = 0; c < 6; c++) {
                if (size[c] == most && most > size[6]) {
                    return c;
                }
            }
            return -9;
        }

        int gate(int n) {
            if (noWalker(n)) {
                return no(-1);
            }
            Walker walker = w.walkers.get(n);
            int open = w.open(walker.store, 0);
            int most = Integer.bitCount(w.reach(walker.field, open));
            int best = -9;
            for (int s = 0; s < w.aunts.size(); s++) {
                int size = Integer.bitCount(w.reach(walker.field, open | 1 << s));
                if (size > most) {
                    most = size;
                    best = s;
                }
            }
            return best;
        }

        int needed(int n, int f) {
            if (noWalker(n) || noField(f)) {
                return no(-1);
            }
            Walker walker = w.walkers.get(n);
            int open = w.open(walker.store, 0);
            for (int s = 0; s < w.aunts.size(); s++) {
                if (w.way(walker.field, f, open) && !w.way(walker.field, f, open & ~(1 << s))) {
                    return s;
                }
            }
            return -9;
        }

        int say(int n, int s) {
            if (noWalker(n) || noStile(s)) {
                return no(-1);
            }
            Walker walker = w.walkers.get(n);
            if (w.aunts.get(s).one != walker.field && w.aunts.get(s).other != walker.field) {
                return no(-3);
            }
            int best = -9;
            int most = 0;
            for (int c = 5; c >= 0; c--) {
                World then = w.copy();
                if (then.can(n, s, c) && then.speak(n, s, c)) {
                    int open = Integer.bitCount(then.open(walker.store, 0));
                    if (best == -9 || open >= most) {
                        best = c;
                        most = open;
                    }
                }
            }
            return best;
        }

        int spent(int what) {
            if (what < 0 || what > 2) {
                return no(-2);
            }
            int[] at = new int[6];
            int kindest = -9;
            int most = -1;
            for (int s = 0; s < w.aunts.size(); s++) {
                int bits = w.pleasing(w.aunts.get(s), 0);
                if (Integer.bitCount(bits) > most) {
                    most = Integer.bitCount(bits);
                    kindest = s;
                }
                for (int c = 0; c < 6; c++) {
                    at[c] += bits >> c & 1;
                }
            }
            int bits = 0;
            int rare = 5;
            for (int c = 5; c >= 0; c--) {
                bits += at[c] == 0 ? 1 << c : 0;
                rare = at[c] <= at[rare] ? c : rare;
            }
            return new int[] {bits, rare, kindest}[what];
        }

        int compared(int what) {
            if (what != 0 && what != 1) {
                return no(-2);
            }
            List<Integer> twos = new ArrayList<>();
            for (int s = 0; s < w.aunts.size(); s++) {
                for (int t = s + 1; t < w.aunts.size(); t++) {
                    boolean same = false;
                    for (int c = 0; c < 6; c++) {
                        Integer here = w.aunts.get(s).said[c];
                        Integer there = w.aunts.get(t).said[c];
                        same |= here != null && there != null && here >= w.day - 7 && there >= w.day - 7;
                    }
                    if (same) {
                        twos.add(10 * s + t);
                    }
                }
            }
            return what == 0 ? twos.size() : twos.isEmpty() ? -9 : twos.get(0);
        }

        int tour(int n, int what) {
            if (noWalker(n)) {
                return no(-1);
            }
            if (what != 0 && what != 1) {
                return no(-2);
            }
            World then = w.copy();
            Walker walker = then.walkers.get(n);
            List<Integer> gone = new ArrayList<>();
            boolean going = true;
            while (going) {
                going = false;
                for (int s = 0; s < then.aunts.size() && !going; s++) {
                    for (int c = 0; c < 6 && !going; c++) {
                        Aunt a = then.aunts.get(s);
                        if (!gone.contains(s) && then.can(n, s, c) && then.pleases(a, a.kind, a.figure, c, 0)) {
                            then.speak(n, s, c);
                            gone.add(s);
                            going = true;
                        }
                    }
                }
            }
            return what == 0 ? gone.size() : walker.field;
        }

        int meet(int what) {
            if (what != 0 && what != 1) {
                return no(-2);
            }
            int best = -9;
            int fewest = 99;
            for (int f = 0; f < 8; f++) {
                int sum = 0;
                for (Walker walker : w.walkers) {
                    sum += w.distances(w.open(walker.store, 0))[walker.field][f];
                }
                if (sum < fewest) {
                    fewest = sum;
                    best = f;
                }
            }
            return what == 0 ? best : best == -9 ? -9 : fewest;
        }

        int leastThatPleases(int n, int s) {
            for (int c = 0; c < 6; c++) {
                if ((w.walkers.get(n).store & w.pleasing(w.aunts.get(s), 0) & 1 << c) != 0) {
                    return c;
                }
            }
            return -1;
        }

        /** What both have behind choosing: the first's, the other's. */
        int[] played(int a, int b, int s, int first, int other) {
            World then = w.copy();
            int mine = leastThatPleases(a, s);
            int his = leastThatPleases(b, s);
            int[] gains = {-first, -other};
            if (first == 1 && mine >= 0 && then.speak(a, s, mine)) {
                gains[0] += 2;
            }
            if (other == 1 && his >= 0 && then.speak(b, s, his)) {
                gains[1] += 2;
            }
            return gains;
        }

        int two(int a, int b, int s) {
            if (noWalker(a) || noWalker(b) || a == b || noStile(s)) {
                return no(-1);
            }
            int field = w.walkers.get(a).field;
            if (w.walkers.get(b).field != field || w.aunts.get(s).one != field && w.aunts.get(s).other != field) {
                return no(-3);
            }
            for (int first = 0; first < 2; first++) {
                for (int other = 0; other < 2; other++) {
                    int[] gains = played(a, b, s, first, other);
                    if (played(a, b, s, 1 - first, other)[0] <= gains[0]
                            && played(a, b, s, first, 1 - other)[1] <= gains[1]) {
                        return 10 * first + other;
                    }
                }
            }
            return -9;
        }

        /** Above t to the sixth: each compliment is kept or gone, one behind the other. */
        long luck(Walker walker, int f, int t, int c, int store) {
            if (c == 6) {
                return w.way(walker.field, f, w.open(store, 0)) ? 1 : 0;
            }
            if ((walker.store >> c & 1) == 0) {
                return t * luck(walker, f, t, c + 1, store);
            }
            return luck(walker, f, t, c + 1, store) + (t - 1) * luck(walker, f, t, c + 1, store | 1 << c);
        }

        /** By trying divisors: what is told here has no prime factors above 19 on both sides. */
        long part(long above, long below, int part) {
            for (long d = 2; d <= 20; d++) {
                while (above % d == 0 && below % d == 0) {
                    above /= d;
                    below /= d;
                }
            }
            return part == 0 ? above : below;
        }

        long hoarse(int n, int f, int t, int part) {
            if (noWalker(n) || noField(f)) {
                return noLong(-1);
            }
            if (t < 2) {
                return noLong(-4);
            }
            if (t > 20) {
                return noLong(-6);
            }
            if (part != 0 && part != 1) {
                return noLong(-2);
            }
            long below = (long) t * t * t * t * t * t;
            long above = luck(w.walkers.get(n), f, t, 0, 0);
            return above == 0 ? part : part(above, below, part);
        }

        long mean(int part) {
            if (part != 0 && part != 1) {
                return noLong(-2);
            }
            int all = 0;
            for (Walker walker : w.walkers) {
                all += Integer.bitCount(walker.store);
            }
            return all == 0 ? part : part(all, w.walkers.size(), part);
        }

        boolean rowIs(Aunt a, char kind, int figure) {
            List<Integer> told = new ArrayList<>();
            for (int ahead = 0; ahead < row.size(); ahead++) {
                told.add(w.pleasing(a, kind, figure, ahead));
            }
            return told.equals(row);
        }

        int whatIs(int s, int what) {
            if (noStile(s)) {
                return no(-1);
            }
            if (what != 0 && what != 1) {
                return no(-2);
            }
            Aunt a = w.aunts.get(s);
            int bits = 0;
            for (int i = 0; i < (what == 0 ? 6 : 10); i++) {
                boolean is = what == 0 ? rowIs(a, "aspygd".charAt(i), a.figure) : rowIs(a, a.kind, i);
                bits += is ? 1 << i : 0;
            }
            return bits;
        }

        int row(int v) {
            if (v < 0) {
                return no(-4);
            }
            if (v > 99 || row.size() == 16) {
                return no(-6);
            }
            row.add(v);
            return row.size();
        }

        int judge() {
            List<Integer> told = row;
            row = new ArrayList<>();
            for (int i = 0; i < told.size(); i++) {
                if (noWalker(i) || Integer.bitCount(w.open(w.walkers.get(i).store, 0)) != told.get(i)) {
                    return i;
                }
            }
            return -9;
        }

        int clear() {
            int had = row.size();
            row = new ArrayList<>();
            return had;
        }

        int lots(int n, int z, int what) {
            if (n < 1) {
                return no(-4);
            }
            if (n > 20) {
                return no(-6);
            }
            if (what != 0 && what != 1) {
                return no(-2);
            }
            if (w.walkers.isEmpty() || w.aunts.isEmpty()) {
                return no(-3);
            }
            int[] seed = {z};
            int[] sums = new int[2];
            for (int week = 0; week < n; week++) {
                World then = w.copy();
                for (int day = 0; day < 12; day++) {
                    int who = draw(seed, w.walkers.size());
                    int where = draw(seed, w.aunts.size());
                    int what6 = draw(seed, 6);
                    if (then.can(who, where, what6) && then.speak(who, where, what6)) {
                        sums[0]++;
                    }
                    then.day++;
                }
                sums[1] += Integer.bitCount(then.open(then.walkers.get(0).store, 0));
            }
            return sums[what];
        }

        static int draw(int[] seed, int m) {
            seed[0] = (int) (seed[0] * 1664525L + 1013904223L);
            long without = seed[0] < 0 ? seed[0] + (1L << 31) : seed[0];
            return (int) (without / 256 % m);
        }

        int image() {
            image = w.copy();
            return w.day;
        }

        int on() {
            if (image == null) {
                return no(-3);
            }
            w = image.copy();
            return w.day;
        }

        int count(int what) {
            int stores = 0;
            int said = 0;
            for (Walker walker : w.walkers) {
                stores += Integer.bitCount(walker.store);
            }
            for (Aunt a : w.aunts) {
                said += saidAt(a);
            }
            int[] counts = {w.aunts.size(), w.walkers.size(), w.day, w.over, stores, said, row.size(),
                letters.length()};
            if (what >= 0 && what <= 7) {
                return counts[what];
            }
            return what >= 11 && what <= 16 ? refused[what - 10] : -9;
        }
    }

    // ---- the runs

    private static String digit(int below) {
        return Integer.toString(roll(20) == 0 ? roll(10) : roll(below));
    }

    private static String statement() {
        switch (roll(9)) {
            case 0:
            case 1:
            case 2:
                return "s" + "aspygd".charAt(roll(6)) + digit(10) + digit(8) + digit(8) + ";";
            case 3:
            case 4:
                return "w" + digit(6) + digit(4) + digit(8) + ";";
            case 5:
                return "c" + digit(3) + digit(6) + digit(6) + ";";
            case 6:
                return "k" + digit(3) + digit(6) + ";";
            case 7:
                return "f" + digit(4) + ";";
            default:
                return "d" + digit(1) + digit(9) + ";";
        }
    }

    private static String mutilated(String text) {
        if (text.isEmpty() || roll(5) != 0) {
            return text;
        }
        int place = roll(text.length());
        String odd = ";0sawckfdx9:/ \u00e9";
        switch (roll(3)) {
            case 0:
                return text.substring(0, place);
            case 1:
                return text.substring(0, place) + odd.charAt(roll(odd.length())) + text.substring(place + 1);
            default:
                return text.substring(0, place) + text.substring(place + 1);
        }
    }

    private static int tellBoth(int run, StileWantsCompliment x, Model m, String text) {
        for (int i = 0; i < text.length(); i++) {
            due(run, "letter(" + (int) text.charAt(i) + ")", x.letter(text.charAt(i)), m.letter(text.charAt(i)));
        }
        due(run, "county() of " + m.letters, x.county(), m.county());
        return text.length() + 1;
    }

    private static int begin(int run, StileWantsCompliment x, Model m) {
        StringBuilder text = new StringBuilder();
        int aunts = roll(10);
        for (int s = 0; s < aunts; s++) {
            int one = roll(5);
            text.append('s').append("aspygd".charAt(roll(6))).append(roll(10)).append(one);
            text.append((one + 1 + roll(4)) % 5).append(';');
        }
        int calls = tellBoth(run, x, m, text.toString());
        text.setLength(0);
        int walkers = roll(6);
        for (int w = 0; w < walkers; w++) {
            text.append('w').append(roll(6)).append(roll(4)).append(roll(5)).append(';');
        }
        return calls + tellBoth(run, x, m, text.toString());
    }

    private static int step(int run, StileWantsCompliment x, Model m) {
        int s = near(0, Math.max(1, m.w.aunts.size()) - 1);
        int n = near(0, Math.max(1, m.w.walkers.size()) - 1);
        int c = near(0, 5);
        int f = near(0, 7);
        switch (roll(42)) {
            case 0:
                StringBuilder text = new StringBuilder();
                for (int i = roll(8); i >= 0; i--) {
                    text.append(statement());
                }
                return tellBoth(run, x, m, mutilated(text.toString()));
            case 1:
                int what = near(0, 5);
                due(run, "stile(" + s + ", " + what + ")", x.stile(s, what), m.stile(s, what));
                return 1;
            case 2:
                what = near(0, 3);
                due(run, "walker(" + n + ", " + what + ")", x.walker(n, what), m.walker(n, what));
                return 1;
            case 3:
                due(run, "last(" + s + ", " + c + ")", x.last(s, c), m.last(s, c));
                return 1;
            case 4:
            case 5:
            case 6:
            case 7:
            case 8:
                if (!m.noWalker(n) && !m.noStile(s) && roll(3) > 0) {
                    int stands = m.w.aunts.get(s).one;
                    due(run, "stands(" + n + ", " + stands + ")", x.stands(n, stands), m.stands(n, stands));
                }
                due(run, "says(" + n + ", " + s + ", " + c + ")", x.says(n, s, c), m.says(n, s, c));
                return 2;
            case 9:
                due(run, "learns(" + n + ", " + c + ")", x.learns(n, c), m.learns(n, c));
                return 1;
            case 10:
                due(run, "forgets(" + s + ")", x.forgets(s), m.forgets(s));
                return 1;
            case 11:
                due(run, "stands(" + n + ", " + f + ")", x.stands(n, f), m.stands(n, f));
                return 1;
            case 12:
                int kind = near(0, 5);
                int figure = near(0, 9);
                due(run, "turn(" + s + ", " + kind + ", " + figure + ")", x.turn(s, kind, figure),
                        m.turn(s, kind, figure));
                return 1;
            case 13:
            case 14:
                int days = roll(6) == 0 ? near(1, 60) : roll(5);
                due(run, "days(" + days + ")", x.days(days), m.days(days));
                return 1;
            default:
                return ask(run, x, m, new int[] {s, n, c, f});
        }
    }

    private static int ask(int run, StileWantsCompliment x, Model m, int[] chosen) {
        int s = chosen[0];
        int n = chosen[1];
        int f = roll(3) == 0 ? chosen[3] : near(0, 4);
        int what = near(0, 1);
        int days = roll(2) == 0 ? roll(9) : near(0, 60);
        switch (roll(24)) {
            case 0:
                due(run, "pleasesThen(" + s + ", " + days + ")", x.pleasesThen(s, days), m.pleasesThen(s, days));
                return 1;
            case 1:
                due(run, "openThen(" + n + ", " + days + ")", x.openThen(n, days), m.openThen(n, days));
                return 1;
            case 2:
                due(run, "way(" + n + ", " + f + ", " + what + ")", x.way(n, f, what), m.way(n, f, what));
                return 1;
            case 3:
                due(run, "shy()", x.shy(), m.shy());
                return 1;
            case 4:
                due(run, "when(" + n + ", " + f + ")", x.when(n, f), m.when(n, f));
                return 1;
            case 5:
                due(run, "store(" + n + ", " + f + ")", x.store(n, f), m.store(n, f));
                return 1;
            case 6:
                due(run, "learn(" + n + ")", x.learn(n), m.learn(n));
                return 1;
            case 7:
                due(run, "gate(" + n + ")", x.gate(n), m.gate(n));
                return 1;
            case 8:
                due(run, "needed(" + n + ", " + f + ")", x.needed(n, f), m.needed(n, f));
                return 1;
            case 9:
                due(run, "say(" + n + ", " + s + ")", x.say(n, s), m.say(n, s));
                return 1;
            case 10:
                int of = near(0, 2);
                due(run, "spent(" + of + ")", x.spent(of), m.spent(of));
                return 1;
            case 11:
                due(run, "compared(" + what + ")", x.compared(what), m.compared(what));
                return 1;
            case 12:
                due(run, "tour(" + n + ", " + what + ")", x.tour(n, what), m.tour(n, what));
                return 1;
            case 13:
                due(run, "meet(" + what + ")", x.meet(what), m.meet(what));
                return 1;
            default:
                return askOfMore(run, x, m, chosen);
        }
    }

    private static int askOfMore(int run, StileWantsCompliment x, Model m, int[] chosen) {
        int s = chosen[0];
        int n = chosen[1];
        int f = roll(3) == 0 ? chosen[3] : near(0, 4);
        int what = near(0, 1);
        switch (roll(11)) {
            case 0:
                int b = near(0, Math.max(1, m.w.walkers.size()) - 1);
                if (!m.noWalker(n) && !m.noWalker(b) && !m.noStile(s) && roll(4) > 0) {
                    int field = m.w.aunts.get(s).other;
                    due(run, "stands(" + n + ", " + field + ")", x.stands(n, field), m.stands(n, field));
                    due(run, "stands(" + b + ", " + field + ")", x.stands(b, field), m.stands(b, field));
                }
                due(run, "two(" + n + ", " + b + ", " + s + ")", x.two(n, b, s), m.two(n, b, s));
                return 3;
            case 1:
                int t = near(2, 20);
                due(run, "hoarse(" + n + ", " + f + ", " + t + ", " + what + ")", x.hoarse(n, f, t, what),
                        m.hoarse(n, f, t, what));
                return 1;
            case 2:
                due(run, "mean(" + what + ")", x.mean(what), m.mean(what));
                return 1;
            case 3:
                return askRow(run, x, m, s, what);
            case 4:
                int v = near(0, 99);
                due(run, "row(" + v + ")", x.row(v), m.row(v));
                return 1;
            case 5:
                return askJudge(run, x, m);
            case 6:
                due(run, "clear()", x.clear(), m.clear());
                return 1;
            case 7:
                int weeks = near(1, 20);
                int z = near(Integer.MIN_VALUE / 2, Integer.MAX_VALUE / 2 - 1) * 3;
                due(run, "lots(" + weeks + ", " + z + ", " + what + ")", x.lots(weeks, z, what),
                        m.lots(weeks, z, what));
                return 1;
            case 8:
                due(run, "image()", x.image(), m.image());
                return 1;
            case 9:
                due(run, "on()", x.on(), m.on());
                return 1;
            default:
                int count = near(0, 16);
                due(run, "count(" + count + ")", x.count(count), m.count(count));
                return 1;
        }
    }

    /** A row that really is what pleases at a stile, or nearly. */
    private static int askRow(int run, StileWantsCompliment x, Model m, int s, int what) {
        due(run, "clear()", x.clear(), m.clear());
        int length = roll(17);
        for (int ahead = 0; ahead < length; ahead++) {
            int v = m.noStile(s) ? 0 : m.w.pleasing(m.w.aunts.get(s), ahead);
            v = roll(30) == 0 ? roll(100) : v;
            due(run, "row(" + v + ")", x.row(v), m.row(v));
        }
        due(run, "whatIs(" + s + ", " + what + ")", x.whatIs(s, what), m.whatIs(s, what));
        return length + 2;
    }

    private static int askJudge(int run, StileWantsCompliment x, Model m) {
        due(run, "clear()", x.clear(), m.clear());
        int length = Math.min(16, m.w.walkers.size() + roll(2));
        for (int n = 0; n < length; n++) {
            int v = m.noWalker(n) ? 0 : Integer.bitCount(m.w.open(m.w.walkers.get(n).store, 0));
            v = roll(8) == 0 ? roll(10) : v;
            due(run, "row(" + v + ")", x.row(v), m.row(v));
        }
        due(run, "judge()", x.judge(), m.judge());
        return length + 2;
    }

    public static void main(String[] args) {
        for (int run = 0; run < RUNS; run++) {
            StileWantsCompliment x = new StileWantsCompliment();
            Model m = new Model();
            int calls = begin(run, x, m);
            while (calls < CALLS + AFTERWARDS) {
                calls += step(run, x, m);
            }
            for (int what = 0; what <= 17; what++) {
                due(run, "count(" + what + ")", x.count(what), m.count(what));
            }
        }
        System.out.println(wrong == 0 ? "both programs answer the same" : wrong + " answers differ");
        if (wrong != 0) {
            System.exit(1);
        }
    }
}
