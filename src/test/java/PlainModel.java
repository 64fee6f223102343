import java.math.BigInteger;
import java.util.ArrayList;
import java.util.Arrays;
import java.util.Comparator;
import java.util.List;

/**
 * The document said once more, as plainly as the library allows: lists and whole windows instead of bits,
 * to be held against the program.
 */
final class PlainModel {
    static final int NONE = -1, BAD = -2, OTHER = -3, NOTHING = -4, STUCK = -5, FULL = -6;

    static final class Person {
        int kind, a, age, comes = 6, shine = NONE;
        boolean[] likes = new boolean[8];
        int[] has = new int[8];

        Person copy() {
            Person p = new Person();
            p.kind = kind;
            p.a = a;
            p.age = age;
            p.comes = comes;
            p.shine = shine;
            p.likes = likes.clone();
            p.has = has.clone();
            return p;
        }

        boolean wants(int sort) {
            return sort == a || sort != NONE && likes[sort];
        }
    }

    static final class World {
        int[] window = new int[12];
        List<Person> people = new ArrayList<>();
        int evenings = 0, seed = 1;

        World() {
            Arrays.fill(window, NONE);
        }

        World copy() {
            World w = new World();
            w.window = window.clone();
            for (Person p : people) {
                w.people.add(p.copy());
            }
            w.evenings = evenings;
            w.seed = seed;
            return w;
        }
    }

    /** What one takes, place for place, in the order in which he takes them. */
    static List<Integer> takes(Person p, int[] window) {
        List<Integer> out = new ArrayList<>();
        switch (p.kind) {
            case 0:
                addIfAny(out, lookersPlace(p, window));
                break;
            case 1:
                asChild(p, window, out);
                break;
            case 2:
                addIfAny(out, lastWanted(p, window));
                break;
            case 3:
                for (int i = 0; i < 12; i++) {
                    if (window[i] == p.a) {
                        out.add(i);
                    }
                }
                if (out.isEmpty()) {
                    asChild(p, window, out);
                }
                break;
            case 4: {
                int last = lastWanted(p, window);
                if (last != NONE && count(window, window[last]) > 1) {
                    out.add(last);
                }
                break;
            }
            default: {
                int best = NONE;
                for (int s = 7; s >= 0; s--) {
                    if (p.wants(s) && count(window, s) > 0 && (best == NONE || count(window, s) >= count(window, best))) {
                        best = s;
                    }
                }
                if (best != NONE) {
                    out.add(find(window, best));
                }
            }
        }
        return out;
    }

    private static void asChild(Person p, int[] window, List<Integer> out) {
        int[] then = window.clone();
        for (int i = 0; i < 2; i++) {
            int place = lookersPlace(p, then);
            if (place != NONE) {
                out.add(place);
                then[place] = NONE;
            }
        }
    }

    private static void addIfAny(List<Integer> out, int place) {
        if (place != NONE) {
            out.add(place);
        }
    }

    private static int lookersPlace(Person p, int[] window) {
        int place = find(window, p.a);
        for (int i = 0; i < 12 && place == NONE; i++) {
            if (p.wants(window[i])) {
                place = i;
            }
        }
        return place;
    }

    private static int lastWanted(Person p, int[] window) {
        for (int i = 11; i >= 0; i--) {
            if (p.wants(window[i])) {
                return i;
            }
        }
        return NONE;
    }

    private static int find(int[] window, int sort) {
        for (int i = 0; i < 12; i++) {
            if (window[i] == sort) {
                return i;
            }
        }
        return NONE;
    }

    private static int count(int[] window, int sort) {
        int n = 0;
        for (int s : window) {
            if (s == sort) {
                n++;
            }
        }
        return n;
    }

    /** An evening: who looks in turn, what each takes, and the window behind all of them. */
    static final class Night {
        List<Integer> turn = new ArrayList<>();
        List<List<Integer>> takes = new ArrayList<>();
        int[] window;

        Night(World w, int set, int[] from) {
            window = from.clone();
            for (int x = 0; x < w.people.size(); x++) {
                takes.add(new ArrayList<>());
                if (has(set, x)) {
                    turn.add(x);
                }
            }
            turn.sort(Comparator.comparingInt((Integer x) -> w.people.get(x).age).thenComparingInt(x -> x));
            for (int x : turn) {
                List<Integer> t = PlainModel.takes(w.people.get(x), window);
                takes.set(x, t);
                for (int place : t) {
                    window[place] = NONE;
                }
            }
        }

        boolean isGlad(World w, int x, int[] from) {
            for (int place : takes.get(x)) {
                if (from[place] == w.people.get(x).a) {
                    return true;
                }
            }
            return false;
        }
    }

    static boolean has(int set, int x) {
        return (set >> x & 1) == 1;
    }

    World world = new World();
    World kept = null;
    List<Integer> tape = new ArrayList<>();
    Object[] shelves = new Object[8];
    int[] refused = new int[7];

    private int no(int code) {
        refused[-code]++;
        return code;
    }

    /** What a call answers, without its being counted as refused. */
    int noRefusal(java.util.function.IntSupplier call) {
        int[] were = refused.clone();
        int answer = call.getAsInt();
        refused = were;
        return answer;
    }

    private int size() {
        return world.people.size();
    }

    private Person person(int x) {
        return world.people.get(x);
    }

    private boolean noLooker(int x) {
        return x < 0 || x >= size();
    }

    private boolean noSet(int set) {
        return set < 0 || set >= 1 << size();
    }

    private static boolean out(int v, int least, int most) {
        return v < least || v > most;
    }

    private Night night(int set) {
        return new Night(world, set, world.window);
    }

    private static int gladBits(World w, int set) {
        Night n = new Night(w, set, w.window);
        int bits = 0;
        for (int x : n.turn) {
            if (n.isGlad(w, x, w.window)) {
                bits |= 1 << x;
            }
        }
        return bits;
    }

    private static int bits(int[] window) {
        int bits = 0;
        for (int i = 0; i < 12; i++) {
            if (window[i] != NONE) {
                bits += 1 << i;
            }
        }
        return bits;
    }

    private static int bits(List<Integer> places) {
        int bits = 0;
        for (int p : places) {
            bits += 1 << p;
        }
        return bits;
    }

    // ---- shelves: a long[] whose first element is the sort of its own, or an Integer for a looker ----

    int row(int s, int sort, int n) {
        if (out(s, 0, 7) || out(sort, 0, 4) || out(n, 0, 40)) {
            return no(BAD);
        }
        long[] row = new long[n + 1];
        row[0] = sort;
        shelves[s] = row;
        return 1;
    }

    private int rowTrouble(int s) {
        return shelves[s] == null ? NOTHING : shelves[s] instanceof long[] ? 0 : OTHER;
    }

    int set(int s, int i, long v) {
        if (out(s, 0, 7)) {
            return no(BAD);
        }
        if (rowTrouble(s) != 0) {
            return no(rowTrouble(s));
        }
        long[] row = (long[]) shelves[s];
        if (out(i, 0, row.length - 2)) {
            return no(BAD);
        }
        int bits = new int[] {8, 16, 32, 64, 64}[(int) row[0]];
        row[i + 1] = row[0] == 4 ? (v == 0 ? 0 : 1) : v << 64 - bits >> 64 - bits;
        return 1;
    }

    int copy(int p, int q, int i, int j, int n) {
        if (out(p, 0, 7) || out(q, 0, 7)) {
            return no(BAD);
        }
        if (rowTrouble(p) == OTHER || rowTrouble(q) == OTHER) {
            return no(OTHER);
        }
        if (rowTrouble(p) == NOTHING || rowTrouble(q) == NOTHING) {
            return no(NOTHING);
        }
        long[] from = ((long[]) shelves[p]).clone();
        long[] to = (long[]) shelves[q];
        if (from[0] != to[0]) {
            return no(OTHER);
        }
        if (i < 0 || j < 0 || n < 0 || (long) i + n > from.length - 1 || (long) j + n > to.length - 1) {
            return no(BAD);
        }
        for (int k = 0; k < n; k++) {
            to[j + k + 1] = from[i + k + 1];
        }
        return n;
    }

    long element(int s, int i) {
        if (out(s, 0, 7) || !(shelves[s] instanceof long[]) || out(i, 0, ((long[]) shelves[s]).length - 2)) {
            return 0;
        }
        return ((long[]) shelves[s])[i + 1];
    }

    int holds(int s) {
        if (out(s, 0, 7) || shelves[s] == null) {
            return NONE;
        }
        return shelves[s] instanceof long[] ? (int) ((long[]) shelves[s])[0] : 10 + (Integer) shelves[s];
    }

    int show(int s, int looker) {
        if (out(s, 0, 7) || out(looker, NONE, size() - 1)) {
            return no(BAD);
        }
        shelves[s] = looker == NONE ? null : (Object) looker;
        return 1;
    }

    int says(int s, int kind) {
        if (out(s, 0, 7) || out(kind, 0, 5)) {
            return no(BAD);
        }
        if (shelves[s] == null) {
            return no(NOTHING);
        }
        if (!(shelves[s] instanceof Integer)) {
            return no(OTHER);
        }
        Person p = person((Integer) shelves[s]);
        int[] above = {NONE, 0, 0, 1, 2, 0};
        for (int k = p.kind; k != NONE; k = above[k]) {
            if (k == kind) {
                return kind == 0 ? p.age : bits(takes(p, world.window));
            }
        }
        return no(OTHER);
    }

    // ---- the window and who looks ----

    int place(int place, int sort) {
        if (out(place, 0, 11) || out(sort, NONE, 7)) {
            return no(BAD);
        }
        int was = world.window[place];
        world.window[place] = sort;
        return was;
    }

    int looker(int kind, int a, int age) {
        if (out(kind, 0, 5) || out(a, 0, 7) || out(age, 0, 99)) {
            return no(BAD);
        }
        if (size() == 8) {
            return no(FULL);
        }
        return add(world, kind, a, age);
    }

    private static int add(World w, int kind, int a, int age) {
        Person p = new Person();
        p.kind = kind;
        p.a = a;
        p.age = age;
        w.people.add(p);
        return w.people.size() - 1;
    }

    int likes(int looker, int sort, boolean is) {
        if (noLooker(looker) || out(sort, 0, 7)) {
            return no(BAD);
        }
        boolean was = person(looker).likes[sort];
        person(looker).likes[sort] = is;
        return was ? 1 : 0;
    }

    int tell(int looker, int what, int v) {
        if (noLooker(looker) || out(what, 0, 2) || out(v, what == 2 ? NONE : 0, new int[] {12, 99, 7}[what])) {
            return no(BAD);
        }
        Person p = person(looker);
        int was = new int[] {p.comes, p.age, p.shine}[what];
        if (what == 0) {
            p.comes = v;
        } else if (what == 1) {
            p.age = v;
        } else {
            p.shine = v;
        }
        return was;
    }

    // ---- the tape ----

    int feed(int letter) {
        if (out(letter, 0, 255)) {
            return no(BAD);
        }
        if (tape.size() == 250) {
            return no(FULL);
        }
        tape.add(letter);
        return tape.size();
    }

    int wipe() {
        int was = tape.size();
        tape.clear();
        return was;
    }

    static final class Fault extends RuntimeException {
        final int place;

        Fault(int place) {
            this.place = place;
        }
    }

    private List<String> tokens;
    private List<Integer> starts;
    private int token;

    int window() {
        StringBuilder text = new StringBuilder();
        for (int b : tape) {
            text.append((char) b);
        }
        tape.clear();
        cut(text.toString());
        World w = world.copy();
        int statements = 0;
        try {
            do {
                statement(w);
                statements++;
            } while (another(text.length()));
        } catch (Fault f) {
            no(BAD);
            return -20 - f.place;
        }
        world = w;
        return statements;
    }

    /** The text in tokens, a wrong byte being one that nothing takes; behind them the end. */
    private void cut(String text) {
        tokens = new ArrayList<>();
        starts = new ArrayList<>();
        java.util.regex.Matcher m = java.util.regex.Pattern.compile("[a-z]+|[0-9]+|[^ ]", java.util.regex.Pattern.DOTALL).matcher(text);
        while (m.find()) {
            tokens.add(m.group());
            starts.add(m.start());
        }
        tokens.add("");
        starts.add(text.length());
        token = 0;
    }

    private boolean another(int size) {
        if (starts.get(token) == size) {
            return false;
        }
        if (!tokens.get(token).equals(";")) {
            throw new Fault(starts.get(token));
        }
        token++;
        return true;
    }

    private void statement(World w) {
        int start = starts.get(token);
        String word = tokens.get(token++);
        int people = w.people.size();
        switch (word) {
            case "place": {
                int p = number(11);
                w.window[p] = number(7);
                break;
            }
            case "clear":
                w.window[number(11)] = NONE;
                break;
            case "looker": {
                if (people == 8) {
                    throw new Fault(start);
                }
                int kind = number(5);
                int a = number(7);
                add(w, kind, a, number(99));
                break;
            }
            case "likes": {
                int x = number(people - 1);
                w.people.get(x).likes[number(7)] = true;
                break;
            }
            case "comes": {
                int x = number(people - 1);
                w.people.get(x).comes = number(12);
                break;
            }
            case "shine": {
                int x = number(people - 1);
                w.people.get(x).shine = number(7);
                break;
            }
            default:
                throw new Fault(start);
        }
    }

    private int number(int most) {
        String t = tokens.get(token);
        if (!t.matches("[0-9]{1,2}") || Integer.parseInt(t) > most) {
            throw new Fault(starts.get(token));
        }
        token++;
        return Integer.parseInt(t);
    }

    // ---- what is there ----

    int sortAt(int place) {
        return out(place, 0, 11) ? no(BAD) : world.window[place];
    }

    int lookerOf(int looker, int what) {
        if (noLooker(looker) || out(what, 0, 17) || what > 5 && what < 10) {
            return no(BAD);
        }
        Person p = person(looker);
        int likes = 0;
        for (int s = 0; s < 8; s++) {
            likes += p.likes[s] ? 1 << s : 0;
        }
        return what >= 10 ? p.has[what - 10] : new int[] {p.kind, p.a, p.age, likes, p.comes, p.shine}[what];
    }

    int sorts(int sort, int what) {
        if (out(sort, 0, 7) || out(what, 0, 2)) {
            return no(BAD);
        }
        int wanted = 0;
        int as = 0;
        for (Person p : world.people) {
            wanted += p.wants(sort) ? 1 : 0;
            as += p.a == sort ? 1 : 0;
        }
        return what == 0 ? count(world.window, sort) : what == 1 ? wanted : as;
    }

    int rare(int what) {
        if (out(what, 0, 1)) {
            return no(BAD);
        }
        List<Integer> there = new ArrayList<>();
        for (int s = 0; s < 8; s++) {
            if (count(world.window, s) > 0) {
                there.add(s);
            }
        }
        if (there.isEmpty()) {
            return no(STUCK);
        }
        there.sort(Comparator.comparingInt((Integer s) -> what == 0 ? count(world.window, s) : -count(world.window, s)));
        return there.get(0);
    }

    int first(int what) {
        if (out(what, 0, 2)) {
            return no(BAD);
        }
        if (size() == 0) {
            return no(STUCK);
        }
        int[] number = new int[size()];
        for (int x = 0; x < size(); x++) {
            number[x] = what == 0 ? 1000 - person(x).age : what == 1 ? person(x).age : Arrays.stream(person(x).has).sum();
        }
        int most = Arrays.stream(number).max().getAsInt();
        for (int x = 0; x < size(); x++) {
            if (number[x] == most) {
                return x;
            }
        }
        return NONE;
    }

    int places() {
        return bits(world.window);
    }

    // ---- an evening ----

    int left(int set) {
        return noSet(set) ? no(BAD) : bits(night(set).window);
    }

    int taken(int set, int looker) {
        return noSet(set) || noLooker(looker) ? no(BAD) : bits(night(set).takes.get(looker));
    }

    int glad(int set, int what) {
        if (noSet(set) || out(what, 0, 1)) {
            return no(BAD);
        }
        return Integer.bitCount(what == 0 ? gladBits(world, set) : emptyBits(set));
    }

    private int emptyBits(int set) {
        Night n = night(set);
        int bits = 0;
        for (int x : n.turn) {
            bits |= n.takes.get(x).isEmpty() ? 1 << x : 0;
        }
        return bits;
    }

    int order(int set, int i) {
        return noSet(set) || out(i, 0, Integer.bitCount(set) - 1) ? no(BAD) : night(set).turn.get(i);
    }

    int gladOnes(int set) {
        return noSet(set) ? no(BAD) : gladBits(world, set);
    }

    int empty(int set) {
        return noSet(set) ? no(BAD) : emptyBits(set);
    }

    int without(int looker) {
        return noLooker(looker) ? no(BAD) : Integer.bitCount(gladBits(world, (1 << size()) - 1 - (1 << looker)));
    }

    int twice(int set, int then) {
        return noSet(set) || noSet(then) ? no(BAD) : bits(new Night(world, then, night(set).window).window);
    }

    int unlike(int set) {
        return noSet(set) ? no(BAD) : (int) Arrays.stream(night(set).window).filter(s -> s != NONE).distinct().count();
    }

    int judge(int s, int n) {
        if (out(s, 0, 7) || out(n, 0, 20)) {
            return no(BAD);
        }
        if (rowTrouble(s) != 0) {
            return no(rowTrouble(s));
        }
        long[] row = (long[]) shelves[s];
        if (row.length - 1 < 2 * n) {
            return no(BAD);
        }
        int set = 0;
        for (int i = 0; i < n; i++) {
            for (int x = 0; x < size(); x++) {
                set |= row[2 * i + 1] == x ? 1 << x : 0;
            }
        }
        Night night = night(set);
        for (int i = 0; i < n; i++) {
            if (i >= night.turn.size() || row[2 * i + 1] != night.turn.get(i)) {
                return i;
            }
            List<Integer> t = night.takes.get(night.turn.get(i));
            if (row[2 * i + 2] != (t.isEmpty() ? -1 : t.get(0))) {
                return i;
            }
        }
        return NONE;
    }

    // ---- all sets ----

    int away(int looker, int what) {
        if (noLooker(looker) || out(what, 0, 1)) {
            return no(BAD);
        }
        int all = (1 << size()) - 1;
        for (int k = 0; k < size(); k++) {
            for (int set = 0; set <= all; set++) {
                if (Integer.bitCount(set) == k && !has(set, looker) && has(gladBits(world, all - set), looker)) {
                    return what == 0 ? k : set;
                }
            }
        }
        return NONE;
    }

    int crowd(int k, int what) {
        if (out(k, 0, size()) || out(what, 0, 1)) {
            return no(BAD);
        }
        int best = NONE;
        for (int set = (1 << size()) - 1; set >= 0; set--) {
            if (Integer.bitCount(set) == k && (best == NONE || gladCount(set) >= gladCount(best))) {
                best = set;
            }
        }
        return what == 0 ? gladCount(best) : best;
    }

    private int gladCount(int set) {
        return Integer.bitCount(gladBits(world, set));
    }

    int who(int left, int what) {
        if (out(left, 0, 4095) || out(what, 0, 3)) {
            return no(BAD);
        }
        List<Integer> sets = new ArrayList<>();
        for (int set = 0; set < 1 << size(); set++) {
            if (bits(night(set).window) == left) {
                sets.add(set);
            }
        }
        switch (what) {
            case 0:
                return sets.size();
            case 1:
                return sets.isEmpty() ? NONE : sets.get(0);
            case 2:
                return sets.isEmpty() ? NONE : sets.stream().reduce((s, t) -> s & t).get();
            default:
                return sets.stream().reduce(0, (s, t) -> s | t);
        }
    }

    private BigInteger ways(int set, int but) {
        BigInteger ways = BigInteger.ONE;
        for (int x = 0; x < size(); x++) {
            if (x != but) {
                ways = ways.multiply(BigInteger.valueOf(has(set, x) ? person(x).comes : 12 - person(x).comes));
            }
        }
        return ways;
    }

    private interface Measure {
        int of(int set);
    }

    private int mean(int times, int but, Measure measure) {
        BigInteger sum = BigInteger.ZERO;
        for (int set = 0; set < 1 << size(); set++) {
            if (but == NONE || has(set, but)) {
                sum = sum.add(ways(set, but).multiply(BigInteger.valueOf(measure.of(set))));
            }
        }
        BigInteger all = BigInteger.valueOf(12).pow(size() - (but == NONE ? 0 : 1));
        return sum.multiply(BigInteger.valueOf(times)).divide(all).intValueExact();
    }

    int odds(int place) {
        if (out(place, 0, 11)) {
            return no(BAD);
        }
        if (world.window[place] == NONE) {
            return no(STUCK);
        }
        return mean(1000000, NONE, set -> night(set).window[place] != NONE ? 1 : 0);
    }

    int likely(int looker) {
        return noLooker(looker) ? no(BAD) : mean(1000000, looker, set -> has(gladBits(world, set), looker) ? 1 : 0);
    }

    int gladOdds(int m) {
        return out(m, 0, 8) ? no(BAD) : mean(1000000, NONE, set -> gladCount(set) >= m ? 1 : 0);
    }

    int meanLeft() {
        return mean(1000, NONE, set -> Integer.bitCount(bits(night(set).window)));
    }

    // ---- otherwise ----

    int setOut(int set, int i) {
        if (noSet(set) || i < NONE) {
            return no(BAD);
        }
        for (int n = 0; n <= 3; n++) {
            List<Integer> row = rowsSetOut(world.copy(), set, n, new ArrayList<>());
            if (row != null) {
                return i == NONE ? n : i < n ? row.get(i) : no(STUCK);
            }
        }
        return i == NONE ? NONE : no(STUCK);
    }

    private static List<Integer> rowsSetOut(World w, int set, int more, List<Integer> row) {
        if (more == 0) {
            return gladBits(w, set) == set ? row : null;
        }
        int empty = find(w.window, NONE);
        for (int s = 0; s < 8 && empty != NONE; s++) {
            boolean isAnA = false;
            for (int x = 0; x < w.people.size(); x++) {
                isAnA |= has(set, x) && w.people.get(x).a == s;
            }
            if (isAnA) {
                World then = w.copy();
                then.window[empty] = s;
                List<Integer> longer = new ArrayList<>(row);
                longer.add(s);
                List<Integer> found = rowsSetOut(then, set, more - 1, longer);
                if (found != null) {
                    return found;
                }
            }
        }
        return null;
    }

    int kinds(int set, int looker, int taken, int what) {
        if (noSet(set) || noLooker(looker) || !has(set, looker) || out(taken, 0, 4095) || out(what, 0, 1)) {
            return no(BAD);
        }
        int bits = 0;
        for (int v = 0; v < (what == 0 ? 6 : 8); v++) {
            World w = world.copy();
            if (what == 0) {
                w.people.get(looker).kind = v;
            } else {
                w.people.get(looker).a = v;
            }
            if (bits(new Night(w, set, w.window).takes.get(looker)) == taken) {
                bits |= 1 << v;
            }
        }
        return bits;
    }

    int exchanged(int looker, int other) {
        if (noLooker(looker) || noLooker(other) || looker == other) {
            return no(BAD);
        }
        World w = world.copy();
        w.people.get(looker).age = person(other).age;
        w.people.get(other).age = person(looker).age;
        return Integer.bitCount(gladBits(w, (1 << size()) - 1));
    }

    int bestPair() {
        int best = NONE;
        int most = NONE;
        for (int x = 0; x < size(); x++) {
            for (int y = x + 1; y < size(); y++) {
                if (exchanged(x, y) > most) {
                    most = exchanged(x, y);
                    best = 10 * x + y;
                }
            }
        }
        return best;
    }

    int oldest(int looker) {
        if (noLooker(looker)) {
            return no(BAD);
        }
        int best = NONE;
        for (int age = 0; age < 100; age++) {
            World w = world.copy();
            w.people.get(looker).age = age;
            best = has(gladBits(w, (1 << size()) - 1), looker) ? age : best;
        }
        return best;
    }

    // ---- swaps ----

    private int[] settle() {
        int[] gets = new int[size()];
        Arrays.fill(gets, NONE);
        List<Integer> in = new ArrayList<>();
        for (int x = 0; x < size(); x++) {
            if (person(x).shine != NONE) {
                in.add(x);
            }
        }
        while (!in.isEmpty()) {
            List<Integer> still = new ArrayList<>();
            for (int x : in) {
                List<Integer> path = new ArrayList<>();
                int at = wish(x, in);
                while (at != x && !path.contains(at)) {
                    path.add(at);
                    at = wish(at, in);
                }
                if (at == x) {
                    gets[x] = person(wish(x, in)).shine;
                } else {
                    still.add(x);
                }
            }
            in = still;
        }
        return gets;
    }

    private int wish(int x, List<Integer> in) {
        int[] ranks = new int[9];
        ranks[0] = person(x).a;
        for (int s = 0; s < 8; s++) {
            ranks[s + 1] = person(x).wants(s) ? s : -2;
        }
        for (int s : ranks) {
            for (int y : in) {
                if (person(y).shine == s) {
                    return y;
                }
            }
        }
        return x;
    }

    int next(int looker) {
        return noLooker(looker) ? no(BAD) : settle()[looker];
    }

    int swapped() {
        int[] gets = settle();
        int n = 0;
        for (int x = 0; x < size(); x++) {
            n += gets[x] != person(x).shine ? 1 : 0;
        }
        return n;
    }

    int swap() {
        int n = swapped();
        int[] gets = settle();
        for (int x = 0; x < size(); x++) {
            Person p = person(x);
            if (p.shine != NONE) {
                p.has[p.shine] = Math.max(p.has[p.shine] - 1, 0);
                p.has[gets[x]] = Math.min(p.has[gets[x]] + 1, 99);
                p.shine = gets[x];
            }
        }
        return n;
    }

    // ---- in truth ----

    int evening(int set) {
        if (noSet(set)) {
            return no(BAD);
        }
        Night n = night(set);
        int things = 0;
        for (int x : n.turn) {
            for (int place : n.takes.get(x)) {
                int sort = world.window[place];
                person(x).has[sort] = Math.min(person(x).has[sort] + 1, 99);
                things++;
            }
            if (!n.takes.get(x).isEmpty()) {
                person(x).shine = world.window[n.takes.get(x).get(0)];
            }
        }
        world.window = n.window;
        world.evenings++;
        return things;
    }

    private int draw(int n) {
        world.seed = world.seed * 1103515245 + 12345;
        return (int) ((world.seed & 0xffffffffL) / 65536 % n);
    }

    int christmases(int n) {
        if (out(n, 1, 40)) {
            return no(BAD);
        }
        int things = 0;
        for (int i = 0; i < n; i++) {
            int set = 0;
            for (int x = 0; x < size(); x++) {
                set += draw(12) < person(x).comes ? 1 << x : 0;
            }
            things += evening(set);
            for (int place = 0; place < 12; place++) {
                if (world.window[place] == NONE) {
                    world.window[place] = draw(8);
                }
            }
        }
        return things;
    }

    int seed(int v) {
        int was = world.seed;
        world.seed = v;
        return was;
    }

    int image() {
        kept = world.copy();
        return 1;
    }

    int back() {
        if (kept == null) {
            return no(STUCK);
        }
        world = kept.copy();
        for (int s = 0; s < 8; s++) {
            if (shelves[s] instanceof Integer && (Integer) shelves[s] >= size()) {
                shelves[s] = null;
            }
        }
        return 1;
    }

    int status(int what) {
        int had = 0;
        int shines = 0;
        for (Person p : world.people) {
            had += Arrays.stream(p.has).sum();
            shines += p.shine != NONE ? 1 : 0;
        }
        int things = Integer.bitCount(places());
        int full = 0;
        for (Object o : shelves) {
            full += o != null ? 1 : 0;
        }
        if (what >= 12 && what <= 16) {
            return refused[what - 10];
        }
        int[] told = {size(), things, had, world.evenings, shines, tape.size(), world.seed, full};
        return out(what, 0, 7) ? NONE : told[what];
    }
}
