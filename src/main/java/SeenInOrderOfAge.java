import java.util.Arrays;

/**
 * A shop window of places with things by sorts, and lookers by kinds who look in order of age, the
 * youngest first, and take with a look what they want.
 */
public final class SeenInOrderOfAge {
    public static final int NONE = -1;

    private static final int BAD = -2;
    private static final int OTHER = -3;
    private static final int NOTHING = -4;
    private static final int STUCK = -5;
    private static final int FULL = -6;

    private static final int PLACE_COUNT = 12;
    private static final int ALL_PLACES = (1 << PLACE_COUNT) - 1;
    private static final int SORT_COUNT = 8;
    private static final int LOOKER_ROOM = 8;
    private static final int GREATEST_AGE = 99;
    private static final int MOST_OF_A_SORT = 99;

    private static final int LOOKER = 0;
    private static final int CHILD = 1;
    private static final int OLD = 2;
    private static final int GREEDY = 3;
    private static final int GIVER = 4;
    private static final int SHY = 5;
    private static final int KIND_COUNT = 6;

    private static final int WAYS_TO_COME = 12;
    private static final int COMES_AT_FIRST = 6;
    private static final long MILLION = 1000000L;

    private static final int SHELF_COUNT = 8;
    private static final int ROW_ROOM = 40;
    private static final int BYTES = 0;
    private static final int SHORTS = 1;
    private static final int INTS = 2;
    private static final int BOOLEANS = 4;
    private static final int ROW_SORT_COUNT = 5;
    private static final int FIRST_LOOKER_HELD = 10;
    private static final int MOST_PAIRS = 20;

    private static final int TAPE_ROOM = 250;
    private static final int BYTE_COUNT = 256;
    private static final int FAULT_BASE = -20;

    private static final int MOST_CHRISTMASES = 40;
    private static final int MOST_SET_OUT = 3;
    private static final int FIRST_REFUSAL_STATUS = 12;
    private static final int FIRST_HAS = 10;

    private final Scene scene = new Scene();
    private final Scene draft = new Scene();
    private final Scene kept = new Scene();
    private boolean isKept;
    private final Evening look = new Evening();
    private final Crowds crowds = new Crowds();
    private final Chances chances = new Chances();
    private final Trials trials = new Trials();
    private final Swaps swaps = new Swaps();
    private final Tape tape = new Tape();
    private final Shelf[] shelves = new Shelf[SHELF_COUNT];
    private final int[] refusals = new int[1 - FULL];

    public SeenInOrderOfAge() {
        for (int s = 0; s < SHELF_COUNT; s++) {
            shelves[s] = new Shelf();
        }
    }

    // ---- shelves ----

    public int row(int s, int sort, int n) {
        if (!isShelf(s) || sort < 0 || sort >= ROW_SORT_COUNT || n < 0 || n > ROW_ROOM) {
            return refuse(BAD);
        }
        shelves[s].holdRow(sort, n);
        return 1;
    }

    public int set(int s, int i, long v) {
        if (!isShelf(s)) {
            return refuse(BAD);
        }
        Shelf shelf = shelves[s];
        if (!shelf.isRow()) {
            return refuse(shelf.isNothing() ? NOTHING : OTHER);
        }
        if (i < 0 || i >= shelf.size) {
            return refuse(BAD);
        }
        shelf.put(i, v);
        return 1;
    }

    public int copy(int p, int q, int i, int j, int n) {
        if (!isShelf(p) || !isShelf(q)) {
            return refuse(BAD);
        }
        Shelf from = shelves[p];
        Shelf to = shelves[q];
        if (from.isLooker() || to.isLooker()) {
            return refuse(OTHER);
        }
        if (from.isNothing() || to.isNothing()) {
            return refuse(NOTHING);
        }
        if (from.held != to.held) {
            return refuse(OTHER);
        }
        if (!from.hasRun(i, n) || !to.hasRun(j, n)) {
            return refuse(BAD);
        }
        System.arraycopy(from.elements, i, to.elements, j, n);
        return n;
    }

    public long element(int s, int i) {
        if (!isShelf(s)) {
            return 0;
        }
        return shelves[s].elementAt(i);
    }

    public int holds(int s) {
        return isShelf(s) ? shelves[s].held : NONE;
    }

    public int show(int s, int looker) {
        if (!isShelf(s) || (looker != NONE && !isLooker(looker))) {
            return refuse(BAD);
        }
        if (looker == NONE) {
            shelves[s].holdNothing();
        } else {
            shelves[s].holdLooker(looker);
        }
        return 1;
    }

    public int says(int s, int kind) {
        if (!isShelf(s) || kind < 0 || kind >= KIND_COUNT) {
            return refuse(BAD);
        }
        Shelf shelf = shelves[s];
        if (shelf.isNothing()) {
            return refuse(NOTHING);
        }
        int held = shelf.held - FIRST_LOOKER_HELD;
        if (!isLooker(held) || !isOfKind(scene.all[held].kind, kind)) {
            return refuse(OTHER);
        }
        Looker one = scene.all[held];
        return kind == LOOKER ? one.age : scene.takes(one, scene.filled);
    }

    // ---- the window and who looks ----

    public int place(int place, int sort) {
        if (!isPlace(place) || !isSortOrNone(sort)) {
            return refuse(BAD);
        }
        int was = scene.sortIn[place];
        scene.put(place, sort);
        return was;
    }

    public int looker(int kind, int a, int age) {
        if (kind < 0 || kind >= KIND_COUNT || !isSort(a) || !isAge(age)) {
            return refuse(BAD);
        }
        if (scene.isFull()) {
            return refuse(FULL);
        }
        return scene.add(kind, a, age);
    }

    public int likes(int looker, int sort, boolean is) {
        if (!isLooker(looker) || !isSort(sort)) {
            return refuse(BAD);
        }
        Looker one = scene.all[looker];
        int was = one.liked >> sort & 1;
        one.like(sort, is);
        return was;
    }

    public int tell(int looker, int what, int v) {
        if (!isLooker(looker)) {
            return refuse(BAD);
        }
        switch (what) {
            case 0:
                return tellComes(looker, v);
            case 1:
                return tellAge(looker, v);
            case 2:
                return tellShine(looker, v);
            default:
                return refuse(BAD);
        }
    }

    private int tellComes(int looker, int v) {
        if (v < 0 || v > WAYS_TO_COME) {
            return refuse(BAD);
        }
        Looker one = scene.all[looker];
        int was = one.comes;
        one.comes = v;
        return was;
    }

    private int tellAge(int looker, int v) {
        if (!isAge(v)) {
            return refuse(BAD);
        }
        int was = scene.all[looker].age;
        scene.putAge(looker, v);
        return was;
    }

    private int tellShine(int looker, int v) {
        if (!isSortOrNone(v)) {
            return refuse(BAD);
        }
        Looker one = scene.all[looker];
        int was = one.shine;
        one.shine = v;
        return was;
    }

    // ---- the tape ----

    public int feed(int letter) {
        if (letter < 0 || letter >= BYTE_COUNT) {
            return refuse(BAD);
        }
        return tape.add(letter) ? tape.size : refuse(FULL);
    }

    public int wipe() {
        int was = tape.size;
        tape.clear();
        return was;
    }

    public int window() {
        draft.become(scene);
        int statements = tape.read(draft);
        int fault = tape.fault;
        tape.clear();
        if (fault != NONE) {
            refuse(BAD);
            return FAULT_BASE - fault;
        }
        scene.become(draft);
        return statements;
    }

    // ---- what is there ----

    public int sortAt(int place) {
        return isPlace(place) ? scene.sortIn[place] : refuse(BAD);
    }

    public int lookerOf(int looker, int what) {
        if (!isLooker(looker)) {
            return refuse(BAD);
        }
        Looker one = scene.all[looker];
        switch (what) {
            case 0:
                return one.kind;
            case 1:
                return one.a;
            case 2:
                return one.age;
            case 3:
                return one.liked;
            case 4:
                return one.comes;
            case 5:
                return one.shine;
            default:
                return isHas(what) ? one.has[what - FIRST_HAS] : refuse(BAD);
        }
    }

    public int sorts(int sort, int what) {
        if (!isSort(sort)) {
            return refuse(BAD);
        }
        switch (what) {
            case 0:
                return Integer.bitCount(scene.placesWith[sort]);
            case 1:
                return scene.countWhoLike(sort);
            case 2:
                return scene.countWithA(sort);
            default:
                return refuse(BAD);
        }
    }

    public int rare(int what) {
        if (what != 0 && what != 1) {
            return refuse(BAD);
        }
        int found = what == 0 ? scene.rarestSort() : scene.commonestSort();
        return found == NONE ? refuse(STUCK) : found;
    }

    public int first(int what) {
        if (what < 0 || what > 2) {
            return refuse(BAD);
        }
        int found = scene.firstWithMost(what);
        return found == NONE ? refuse(STUCK) : found;
    }

    public int places() {
        return scene.filled;
    }

    // ---- an evening, if a set comes ----

    public int left(int set) {
        if (!isSet(set)) {
            return refuse(BAD);
        }
        look.run(scene, set, scene.filled);
        return look.rest;
    }

    public int taken(int set, int looker) {
        if (!isSet(set) || !isLooker(looker)) {
            return refuse(BAD);
        }
        look.run(scene, set, scene.filled);
        return look.takenBy[looker];
    }

    public int glad(int set, int what) {
        if (!isSet(set) || (what != 0 && what != 1)) {
            return refuse(BAD);
        }
        look.run(scene, set, scene.filled);
        return Integer.bitCount(what == 0 ? look.gladSet : look.emptySet);
    }

    public int order(int set, int i) {
        if (!isSet(set)) {
            return refuse(BAD);
        }
        int found = scene.inOrder(set, i);
        return found == NONE ? refuse(BAD) : found;
    }

    public int gladOnes(int set) {
        if (!isSet(set)) {
            return refuse(BAD);
        }
        look.run(scene, set, scene.filled);
        return look.gladSet;
    }

    public int empty(int set) {
        if (!isSet(set)) {
            return refuse(BAD);
        }
        look.run(scene, set, scene.filled);
        return look.emptySet;
    }

    public int without(int looker) {
        if (!isLooker(looker)) {
            return refuse(BAD);
        }
        look.run(scene, scene.everybody() & ~(1 << looker), scene.filled);
        return Integer.bitCount(look.gladSet);
    }

    public int twice(int set, int then) {
        if (!isSet(set) || !isSet(then)) {
            return refuse(BAD);
        }
        look.run(scene, set, scene.filled);
        look.run(scene, then, look.rest);
        return look.rest;
    }

    public int unlike(int set) {
        if (!isSet(set)) {
            return refuse(BAD);
        }
        look.run(scene, set, scene.filled);
        return scene.countUnlike(look.rest);
    }

    public int judge(int s, int n) {
        if (!isShelf(s) || n < 0 || n > MOST_PAIRS) {
            return refuse(BAD);
        }
        Shelf shelf = shelves[s];
        if (!shelf.isRow()) {
            return refuse(shelf.isNothing() ? NOTHING : OTHER);
        }
        if (shelf.size < 2 * n) {
            return refuse(BAD);
        }
        return scene.wrongPair(shelf, n);
    }

    // ---- of all the sets that may come ----

    public int away(int looker, int what) {
        if (!isLooker(looker) || (what != 0 && what != 1)) {
            return refuse(BAD);
        }
        crowds.findAway(scene, looker);
        return what == 0 ? crowds.number : crowds.found;
    }

    public int crowd(int k, int what) {
        if (k < 0 || k > scene.count || (what != 0 && what != 1)) {
            return refuse(BAD);
        }
        crowds.findGladdest(scene, k);
        return what == 0 ? crowds.number : crowds.found;
    }

    public int who(int left, int what) {
        if (!isPlaces(left) || what < 0 || what > 3) {
            return refuse(BAD);
        }
        crowds.findLeaving(scene, left);
        switch (what) {
            case 0:
                return crowds.number;
            case 1:
                return crowds.found;
            case 2:
                return crowds.inAll;
            default:
                return crowds.inSome;
        }
    }

    public int odds(int place) {
        if (!isPlace(place)) {
            return refuse(BAD);
        }
        if (scene.sortIn[place] == NONE) {
            return refuse(STUCK);
        }
        return chances.ofLeft(scene, place);
    }

    public int likely(int looker) {
        return isLooker(looker) ? chances.ofGlad(scene, looker) : refuse(BAD);
    }

    public int gladOdds(int m) {
        if (m < 0 || m > LOOKER_ROOM) {
            return refuse(BAD);
        }
        return chances.ofManyGlad(scene, m);
    }

    public int meanLeft() {
        return chances.meanOfLeft(scene);
    }

    // ---- if something were otherwise ----

    public int setOut(int set, int i) {
        if (!isSet(set) || i < NONE) {
            return refuse(BAD);
        }
        int number = trials.findSetOut(scene, set);
        if (i == NONE) {
            return number;
        }
        return i < number ? trials.sortSetOut(i) : refuse(STUCK);
    }

    public int kinds(int set, int looker, int taken, int what) {
        if (!isSet(set) || !isLooker(looker) || (set >> looker & 1) == 0) {
            return refuse(BAD);
        }
        if (!isPlaces(taken) || (what != 0 && what != 1)) {
            return refuse(BAD);
        }
        return what == 0
            ? trials.kindsTaking(scene, set, looker, taken)
            : trials.wishesTaking(scene, set, looker, taken);
    }

    public int exchanged(int looker, int other) {
        if (!isLooker(looker) || !isLooker(other) || looker == other) {
            return refuse(BAD);
        }
        return trials.gladExchanged(scene, looker, other);
    }

    public int bestPair() {
        return trials.bestExchange(scene);
    }

    public int oldest(int looker) {
        return isLooker(looker) ? trials.greatestGladAge(scene, looker) : refuse(BAD);
    }

    // ---- swaps ----

    public int next(int looker) {
        if (!isLooker(looker)) {
            return refuse(BAD);
        }
        swaps.settle(scene);
        return swaps.gets[looker];
    }

    public int swapped() {
        swaps.settle(scene);
        return swaps.countOthers(scene);
    }

    public int swap() {
        swaps.settle(scene);
        int others = swaps.countOthers(scene);
        swaps.carryOut(scene);
        return others;
    }

    // ---- in truth ----

    public int evening(int set) {
        return isSet(set) ? look.runInTruth(scene, set) : refuse(BAD);
    }

    public int christmases(int n) {
        if (n < 1 || n > MOST_CHRISTMASES) {
            return refuse(BAD);
        }
        int things = 0;
        for (int i = 0; i < n; i++) {
            things += look.runInTruth(scene, scene.drawWhoCome());
            scene.drawThings();
        }
        return things;
    }

    public int seed(int v) {
        int was = scene.drawSeed;
        scene.drawSeed = v;
        return was;
    }

    // ---- all of it ----

    public int image() {
        kept.become(scene);
        isKept = true;
        return 1;
    }

    public int back() {
        if (!isKept) {
            return refuse(STUCK);
        }
        scene.become(kept);
        for (int s = 0; s < SHELF_COUNT; s++) {
            Shelf shelf = shelves[s];
            if (shelf.isLooker() && !isLooker(shelf.held - FIRST_LOOKER_HELD)) {
                shelf.holdNothing();
            }
        }
        return 1;
    }

    public int status(int what) {
        switch (what) {
            case 0:
                return scene.count;
            case 1:
                return Integer.bitCount(scene.filled);
            case 2:
                return scene.countHad();
            case 3:
                return scene.evenings;
            case 4:
                return Integer.bitCount(scene.bringers());
            case 5:
                return tape.size;
            case 6:
                return scene.drawSeed;
            case 7:
                return countShelvesInUse();
            default:
                return refusalsOf(what);
        }
    }

    private int refusalsOf(int what) {
        int which = what - FIRST_REFUSAL_STATUS;
        if (which < 0 || which > BAD - FULL) {
            return NONE;
        }
        return refusals[which - BAD];
    }

    private int countShelvesInUse() {
        int number = 0;
        for (int s = 0; s < SHELF_COUNT; s++) {
            if (!shelves[s].isNothing()) {
                number++;
            }
        }
        return number;
    }

    private int refuse(int refusal) {
        if (refusal <= BAD && refusal >= FULL) {
            refusals[-refusal]++;
        }
        return refusal;
    }

    // ---- which numbers may be ----

    private boolean isLooker(int looker) {
        return looker >= 0 && looker < scene.count;
    }

    private boolean isSet(int set) {
        return (set & ~scene.everybody()) == 0;
    }

    private static boolean isShelf(int s) {
        return s >= 0 && s < SHELF_COUNT;
    }

    private static boolean isPlace(int place) {
        return place >= 0 && place < PLACE_COUNT;
    }

    private static boolean isPlaces(int bits) {
        return (bits & ~ALL_PLACES) == 0;
    }

    private static boolean isSort(int sort) {
        return sort >= 0 && sort < SORT_COUNT;
    }

    private static boolean isSortOrNone(int sort) {
        return sort == NONE || isSort(sort);
    }

    private static boolean isAge(int age) {
        return age >= 0 && age <= GREATEST_AGE;
    }

    private static boolean isHas(int what) {
        return what >= FIRST_HAS && what < FIRST_HAS + SORT_COUNT;
    }

    /** Whether one of a kind is of a wanted kind too: of that kind itself, or of one under it. */
    private static boolean isOfKind(int kind, int wanted) {
        return wanted == LOOKER
            || kind == wanted
            || (kind == GREEDY && wanted == CHILD)
            || (kind == GIVER && wanted == OLD);
    }

    /** One who looks: what he is, what he wants, and what he has. */
    private static final class Looker {
        private final int[] has = new int[SORT_COUNT];
        private int kind;
        private int a;
        private int age;
        private int liked;
        private int comes;
        private int shine;

        private void begin(int newKind, int newA, int newAge) {
            kind = newKind;
            a = newA;
            age = newAge;
            liked = 0;
            comes = COMES_AT_FIRST;
            shine = NONE;
            Arrays.fill(has, 0);
        }

        private void become(Looker other) {
            kind = other.kind;
            a = other.a;
            age = other.age;
            liked = other.liked;
            comes = other.comes;
            shine = other.shine;
            System.arraycopy(other.has, 0, has, 0, SORT_COUNT);
        }

        private void like(int sort, boolean is) {
            liked = is ? liked | 1 << sort : liked & ~(1 << sort);
        }

        /** The sorts he likes, as bits, his a with them. */
        private int wanted() {
            return liked | 1 << a;
        }

        private void gain(int sort) {
            if (isSort(sort)) {
                has[sort] = Math.min(MOST_OF_A_SORT, has[sort] + 1);
            }
        }

        private void lose(int sort) {
            if (isSort(sort)) {
                has[sort] = Math.max(0, has[sort] - 1);
            }
        }

        private int countHad() {
            int number = 0;
            for (int sort = 0; sort < SORT_COUNT; sort++) {
                number += has[sort];
            }
            return number;
        }
    }

    /** All that an image keeps: the window, the lookers, how many evenings there were, the seed. */
    private static final class Scene {
        private final int[] sortIn = new int[PLACE_COUNT];
        private final int[] placesWith = new int[SORT_COUNT];
        private final Looker[] all = new Looker[LOOKER_ROOM];
        private final int[] byAge = new int[LOOKER_ROOM];
        private int filled;
        private int count;
        private int evenings;
        private int drawSeed;

        private Scene() {
            drawSeed = 1;
            Arrays.fill(sortIn, NONE);
            for (int x = 0; x < LOOKER_ROOM; x++) {
                all[x] = new Looker();
            }
        }

        private void become(Scene other) {
            System.arraycopy(other.sortIn, 0, sortIn, 0, PLACE_COUNT);
            System.arraycopy(other.placesWith, 0, placesWith, 0, SORT_COUNT);
            System.arraycopy(other.byAge, 0, byAge, 0, LOOKER_ROOM);
            for (int x = 0; x < other.count; x++) {
                all[x].become(other.all[x]);
            }
            filled = other.filled;
            count = other.count;
            evenings = other.evenings;
            drawSeed = other.drawSeed;
        }

        private void put(int place, int sort) {
            int was = sortIn[place];
            if (isSort(was)) {
                placesWith[was] &= ~(1 << place);
            }
            filled &= ~(1 << place);
            if (isSort(sort)) {
                placesWith[sort] |= 1 << place;
                filled |= 1 << place;
            }
            sortIn[place] = sort;
        }

        private int placesWithAny(int sortBits) {
            int bits = 0;
            for (int sort = 0; sort < SORT_COUNT; sort++) {
                if ((sortBits >> sort & 1) != 0) {
                    bits |= placesWith[sort];
                }
            }
            return bits;
        }

        private boolean isFull() {
            return count >= LOOKER_ROOM;
        }

        private int everybody() {
            return (1 << count) - 1;
        }

        private int add(int kind, int a, int age) {
            int x = count;
            all[x].begin(kind, a, age);
            count++;
            orderByAge();
            return x;
        }

        private void putAge(int x, int age) {
            all[x].age = age;
            orderByAge();
        }

        /** Who is as old as another comes behind him, if his number is the greater. */
        private void orderByAge() {
            for (int x = 0; x < count; x++) {
                int at = x;
                while (at > 0 && all[byAge[at - 1]].age > all[x].age) {
                    byAge[at] = byAge[at - 1];
                    at--;
                }
                byAge[at] = x;
            }
        }

        /** The i-th of a set in order of age; NONE, if there are not so many. */
        private int inOrder(int set, int i) {
            int before = 0;
            for (int at = 0; at < count; at++) {
                int x = byAge[at];
                if ((set >> x & 1) != 0) {
                    if (before == i) {
                        return x;
                    }
                    before++;
                }
            }
            return NONE;
        }

        /** The places that one takes of those that still hold a thing. */
        private int takes(Looker one, int there) {
            int best = placesWith[one.a] & there;
            int wanted = placesWithAny(one.wanted()) & there;
            switch (one.kind) {
                case CHILD:
                    return takesTwice(best, wanted);
                case GREEDY:
                    return best != 0 ? best : takesTwice(best, wanted);
                case OLD:
                    return Integer.highestOneBit(wanted);
                case GIVER:
                    return isOnly(Integer.highestOneBit(wanted), there) ? 0 : Integer.highestOneBit(wanted);
                case SHY:
                    return Integer.lowestOneBit(placesWithMost(one.wanted(), there));
                default:
                    return Integer.lowestOneBit(best != 0 ? best : wanted);
            }
        }

        private static int takesTwice(int best, int wanted) {
            int once = Integer.lowestOneBit(best != 0 ? best : wanted);
            int bestThen = best & ~once;
            return once | Integer.lowestOneBit(bestThen != 0 ? bestThen : wanted & ~once);
        }

        /** Whether no other place has a thing of the sort that is in this one. */
        private boolean isOnly(int placeBit, int there) {
            for (int sort = 0; sort < SORT_COUNT; sort++) {
                if ((placesWith[sort] & there) == placeBit) {
                    return true;
                }
            }
            return false;
        }

        /** Of some sorts the places with that of which most things are there, of several the least. */
        private int placesWithMost(int sortBits, int there) {
            int most = 0;
            for (int sort = 0; sort < SORT_COUNT; sort++) {
                int those = placesWith[sort] & there;
                if ((sortBits >> sort & 1) != 0 && Integer.bitCount(those) > Integer.bitCount(most)) {
                    most = those;
                }
            }
            return most;
        }

        /** Which of the places that one takes is his first: who takes his a, takes that first. */
        private int firstTaken(Looker one, int taken) {
            int best = placesWith[one.a] & taken;
            int first = Integer.lowestOneBit(best != 0 ? best : taken);
            return first == 0 ? NONE : Integer.numberOfTrailingZeros(first);
        }

        private int countUnlike(int there) {
            int number = 0;
            for (int sort = 0; sort < SORT_COUNT; sort++) {
                if ((placesWith[sort] & there) != 0) {
                    number++;
                }
            }
            return number;
        }

        private int countWhoLike(int sort) {
            int number = 0;
            for (int x = 0; x < count; x++) {
                number += all[x].wanted() >> sort & 1;
            }
            return number;
        }

        private int countWithA(int sort) {
            int number = 0;
            for (int x = 0; x < count; x++) {
                if (all[x].a == sort) {
                    number++;
                }
            }
            return number;
        }

        private int countHad() {
            int number = 0;
            for (int x = 0; x < count; x++) {
                number += all[x].countHad();
            }
            return number;
        }

        private int rarestSort() {
            int best = NONE;
            int fewest = PLACE_COUNT + 1;
            for (int sort = 0; sort < SORT_COUNT; sort++) {
                int number = Integer.bitCount(placesWith[sort]);
                if (number > 0 && number < fewest) {
                    best = sort;
                    fewest = number;
                }
            }
            return best;
        }

        private int commonestSort() {
            int best = NONE;
            int most = 0;
            for (int sort = 0; sort < SORT_COUNT; sort++) {
                int number = Integer.bitCount(placesWith[sort]);
                if (number > most) {
                    best = sort;
                    most = number;
                }
            }
            return best;
        }

        /** Who is youngest (what 0), eldest (1), has most things (2); NONE, if nobody is there. */
        private int firstWithMost(int what) {
            int best = NONE;
            int most = 0;
            for (int x = 0; x < count; x++) {
                int number = measure(all[x], what);
                if (best == NONE || number > most) {
                    best = x;
                    most = number;
                }
            }
            return best;
        }

        private static int measure(Looker one, int what) {
            switch (what) {
                case 0:
                    return -one.age;
                case 1:
                    return one.age;
                default:
                    return one.countHad();
            }
        }

        /** Who has a shine, as bits. */
        private int bringers() {
            int bits = 0;
            for (int x = 0; x < count; x++) {
                if (all[x].shine != NONE) {
                    bits |= 1 << x;
                }
            }
            return bits;
        }

        /** The first of n told pairs that is wrong; NONE, if none is. */
        private int wrongPair(Shelf told, int n) {
            int set = toldLookers(told, n);
            int there = filled;
            for (int pair = 0; pair < n; pair++) {
                int x = inOrder(set, pair);
                if (x == NONE || told.elementAt(2 * pair) != x) {
                    return pair;
                }
                int taken = takes(all[x], there);
                if (told.elementAt(2 * pair + 1) != firstTaken(all[x], taken)) {
                    return pair;
                }
                there &= ~taken;
            }
            return NONE;
        }

        private int toldLookers(Shelf told, int n) {
            int set = 0;
            for (int pair = 0; pair < n; pair++) {
                long x = told.elementAt(2 * pair);
                if (x >= 0 && x < count) {
                    set |= 1 << (int) x;
                }
            }
            return set;
        }

        private int draw(int below) {
            drawSeed = drawSeed * 1103515245 + 12345;
            return below > 0 ? (drawSeed >>> 16) % below : 0;
        }

        /** Each draws, also one who never comes or always does. */
        private int drawWhoCome() {
            int set = 0;
            for (int x = 0; x < count; x++) {
                if (draw(WAYS_TO_COME) < all[x].comes) {
                    set |= 1 << x;
                }
            }
            return set;
        }

        private void drawThings() {
            for (int place = 0; place < PLACE_COUNT; place++) {
                if (sortIn[place] == NONE) {
                    put(place, draw(SORT_COUNT));
                }
            }
        }
    }

    /** What comes of it, if a set looks through the window; in truth only where it says so. */
    private static final class Evening {
        private final int[] takenBy = new int[LOOKER_ROOM];
        private int rest;
        private int gladSet;
        private int emptySet;

        private void run(Scene scene, int set, int there) {
            rest = there;
            gladSet = 0;
            emptySet = 0;
            for (int at = 0; at < scene.count; at++) {
                int x = scene.byAge[at];
                Looker one = scene.all[x];
                boolean isIn = (set >> x & 1) != 0;
                int takes = isIn ? scene.takes(one, rest) : 0;
                takenBy[x] = takes;
                rest &= ~takes;
                if ((takes & scene.placesWith[one.a]) != 0) {
                    gladSet |= 1 << x;
                }
                if (isIn && takes == 0) {
                    emptySet |= 1 << x;
                }
            }
        }

        /** How many things were taken in truth. */
        private int runInTruth(Scene scene, int set) {
            int there = scene.filled;
            run(scene, set, there);
            for (int x = 0; x < scene.count; x++) {
                handOver(scene, x);
            }
            int gone = there & ~rest;
            for (int place = 0; place < PLACE_COUNT; place++) {
                if ((gone >> place & 1) != 0) {
                    scene.put(place, NONE);
                }
            }
            scene.evenings++;
            return Integer.bitCount(gone);
        }

        private void handOver(Scene scene, int x) {
            Looker one = scene.all[x];
            int first = scene.firstTaken(one, takenBy[x]);
            for (int place = 0; place < PLACE_COUNT; place++) {
                if ((takenBy[x] >> place & 1) != 0) {
                    one.gain(scene.sortIn[place]);
                }
                if (place == first) {
                    one.shine = scene.sortIn[place];
                }
            }
        }
    }

    /** Which of all the sets of lookers are such as are asked for. */
    private static final class Crowds {
        private final Evening look = new Evening();
        private int number;
        private int found;
        private int inAll;
        private int inSome;

        /** The fewest others who must stay away that one is glad: how many, the set. */
        private void findAway(Scene scene, int looker) {
            int all = scene.everybody();
            number = NONE;
            found = NONE;
            for (int set = 0; set <= all; set++) {
                boolean isFewer = number == NONE || Integer.bitCount(set) < number;
                if ((set >> looker & 1) == 0 && isFewer) {
                    look.run(scene, all & ~set, scene.filled);
                    if ((look.gladSet >> looker & 1) != 0) {
                        number = Integer.bitCount(set);
                        found = set;
                    }
                }
            }
        }

        /** The set of k of whom most are glad: how many are, the set. */
        private void findGladdest(Scene scene, int k) {
            int all = scene.everybody();
            number = NONE;
            found = NONE;
            for (int set = 0; set <= all; set++) {
                if (Integer.bitCount(set) == k) {
                    look.run(scene, set, scene.filled);
                    int glad = Integer.bitCount(look.gladSet);
                    if (glad > number) {
                        number = glad;
                        found = set;
                    }
                }
            }
        }

        /** The sets that leave just these places: how many, the first, who is in all, in some. */
        private void findLeaving(Scene scene, int places) {
            int all = scene.everybody();
            number = 0;
            found = NONE;
            inAll = NONE;
            inSome = 0;
            for (int set = 0; set <= all; set++) {
                look.run(scene, set, scene.filled);
                if (look.rest == places) {
                    found = number == 0 ? set : found;
                    inAll = number == 0 ? set : inAll & set;
                    inSome |= set;
                    number++;
                }
            }
        }
    }

    /** How likely things are, if each comes by his own chance, in twelfths, whoever else comes. */
    private static final class Chances {
        private final Evening look = new Evening();

        /** In how many of all ways just this set comes, one not counted (NONE: all are). */
        private static long waysOf(Scene scene, int set, int uncounted) {
            long ways = 1;
            for (int x = 0; x < scene.count; x++) {
                if (x != uncounted) {
                    int comes = scene.all[x].comes;
                    ways *= (set >> x & 1) != 0 ? comes : WAYS_TO_COME - comes;
                }
            }
            return ways;
        }

        private static int share(long times, long ways, int lookers) {
            long all = 1;
            for (int x = 0; x < lookers; x++) {
                all *= WAYS_TO_COME;
            }
            return all > 0 ? (int) (times * ways / all) : 0;
        }

        private int ofLeft(Scene scene, int place) {
            int all = scene.everybody();
            long ways = 0;
            for (int set = 0; set <= all; set++) {
                look.run(scene, set, scene.filled);
                if ((look.rest >> place & 1) != 0) {
                    ways += waysOf(scene, set, NONE);
                }
            }
            return share(MILLION, ways, scene.count);
        }

        private int ofGlad(Scene scene, int looker) {
            int all = scene.everybody();
            long ways = 0;
            for (int set = 0; set <= all; set++) {
                if ((set >> looker & 1) != 0) {
                    look.run(scene, set, scene.filled);
                    if ((look.gladSet >> looker & 1) != 0) {
                        ways += waysOf(scene, set, looker);
                    }
                }
            }
            return share(MILLION, ways, scene.count - 1);
        }

        private int ofManyGlad(Scene scene, int m) {
            int all = scene.everybody();
            long ways = 0;
            for (int set = 0; set <= all; set++) {
                look.run(scene, set, scene.filled);
                if (Integer.bitCount(look.gladSet) >= m) {
                    ways += waysOf(scene, set, NONE);
                }
            }
            return share(MILLION, ways, scene.count);
        }

        private int meanOfLeft(Scene scene) {
            int all = scene.everybody();
            long ways = 0;
            for (int set = 0; set <= all; set++) {
                look.run(scene, set, scene.filled);
                ways += Integer.bitCount(look.rest) * waysOf(scene, set, NONE);
            }
            return share(1000L, ways, scene.count);
        }
    }

    /** What would come of it, if something in the scene were otherwise: tried on a copy of it. */
    private static final class Trials {
        private final Scene trial = new Scene();
        private final Evening look = new Evening();
        private final int[] emptyPlaces = new int[MOST_SET_OUT];
        private final int[] setOut = new int[MOST_SET_OUT];

        /** How many things more make all of a set glad; NONE, if none to three of them do. */
        private int findSetOut(Scene scene, int set) {
            trial.become(scene);
            int room = findEmptyPlaces();
            int sortBits = 0;
            for (int x = 0; x < trial.count; x++) {
                if ((set >> x & 1) != 0) {
                    sortBits |= 1 << trial.all[x].a;
                }
            }
            for (int number = 0; number <= room; number++) {
                if (isEnough(set, sortBits, number)) {
                    return number;
                }
            }
            return NONE;
        }

        /** The first empty places are noted, three at most: how many. */
        private int findEmptyPlaces() {
            int room = 0;
            for (int place = 0; place < PLACE_COUNT && room < MOST_SET_OUT; place++) {
                if (trial.sortIn[place] == NONE) {
                    emptyPlaces[room] = place;
                    room++;
                }
            }
            return room;
        }

        /** Tries the rows of so many sorts, three bits a sort, the first sort's the highest. */
        private boolean isEnough(int set, int sortBits, int number) {
            int rows = 1 << 3 * number;
            for (int row = 0; row < rows; row++) {
                if (putRow(row, sortBits, number)) {
                    look.run(trial, set, trial.filled);
                    if (look.gladSet == set) {
                        return true;
                    }
                }
            }
            return false;
        }

        private boolean putRow(int row, int sortBits, int number) {
            for (int i = 0; i < number && i < MOST_SET_OUT; i++) {
                int sort = row >> 3 * (number - 1 - i) & (SORT_COUNT - 1);
                if ((sortBits >> sort & 1) == 0) {
                    return false;
                }
                setOut[i] = sort;
                trial.put(emptyPlaces[i], sort);
            }
            return true;
        }

        private int sortSetOut(int i) {
            return i >= 0 && i < MOST_SET_OUT ? setOut[i] : NONE;
        }

        private int kindsTaking(Scene scene, int set, int looker, int places) {
            trial.become(scene);
            int bits = 0;
            for (int kind = 0; kind < KIND_COUNT; kind++) {
                trial.all[looker].kind = kind;
                look.run(trial, set, trial.filled);
                if (look.takenBy[looker] == places) {
                    bits |= 1 << kind;
                }
            }
            return bits;
        }

        private int wishesTaking(Scene scene, int set, int looker, int places) {
            trial.become(scene);
            int bits = 0;
            for (int sort = 0; sort < SORT_COUNT; sort++) {
                trial.all[looker].a = sort;
                look.run(trial, set, trial.filled);
                if (look.takenBy[looker] == places) {
                    bits |= 1 << sort;
                }
            }
            return bits;
        }

        private int gladExchanged(Scene scene, int looker, int other) {
            trial.become(scene);
            trial.putAge(looker, scene.all[other].age);
            trial.putAge(other, scene.all[looker].age);
            look.run(trial, trial.everybody(), trial.filled);
            return Integer.bitCount(look.gladSet);
        }

        private int bestExchange(Scene scene) {
            int best = NONE;
            int most = NONE;
            for (int lesser = 0; lesser < scene.count; lesser++) {
                for (int other = lesser + 1; other < scene.count; other++) {
                    int glad = gladExchanged(scene, lesser, other);
                    if (glad > most) {
                        most = glad;
                        best = 10 * lesser + other;
                    }
                }
            }
            return best;
        }

        private int greatestGladAge(Scene scene, int looker) {
            trial.become(scene);
            for (int age = GREATEST_AGE; age >= 0; age--) {
                trial.putAge(looker, age);
                look.run(trial, trial.everybody(), trial.filled);
                if ((look.gladSet >> looker & 1) != 0) {
                    return age;
                }
            }
            return NONE;
        }
    }

    /** Swaps behind the eyes: who brings a shine wishes, and rings of wishes come true. */
    private static final class Swaps {
        private final int[] wish = new int[LOOKER_ROOM];
        private final int[] gets = new int[LOOKER_ROOM];

        /** Each round at least one ring goes out, so there are no more rounds than lookers. */
        private void settle(Scene scene) {
            Arrays.fill(gets, NONE);
            int in = scene.bringers();
            for (int round = 0; round < LOOKER_ROOM && in != 0; round++) {
                in &= ~settleRings(scene, in);
            }
        }

        private int settleRings(Scene scene, int in) {
            for (int x = 0; x < scene.count; x++) {
                wish[x] = wishOf(scene, x, in);
            }
            int done = 0;
            for (int x = 0; x < scene.count; x++) {
                if ((in >> x & 1) != 0 && isOnRing(x)) {
                    gets[x] = scene.all[wish[x]].shine;
                    done |= 1 << x;
                }
            }
            return done;
        }

        private int wishOf(Scene scene, int x, int in) {
            Looker one = scene.all[x];
            int best = firstWhoBrings(scene, one.a, in);
            for (int sort = 0; sort < SORT_COUNT && best == NONE; sort++) {
                if ((one.liked >> sort & 1) != 0) {
                    best = firstWhoBrings(scene, sort, in);
                }
            }
            return best == NONE ? x : best;
        }

        private static int firstWhoBrings(Scene scene, int sort, int in) {
            for (int x = 0; x < scene.count; x++) {
                if ((in >> x & 1) != 0 && scene.all[x].shine == sort) {
                    return x;
                }
            }
            return NONE;
        }

        private boolean isOnRing(int x) {
            int at = wish[x];
            for (int step = 0; step < LOOKER_ROOM && at != x; step++) {
                at = wish[at];
            }
            return at == x;
        }

        /** How many get another sort than they brought. */
        private int countOthers(Scene scene) {
            int number = 0;
            for (int x = 0; x < scene.count; x++) {
                if (gets[x] != scene.all[x].shine) {
                    number++;
                }
            }
            return number;
        }

        /** Also who gets the sort that he brought has one less of it first, then one more. */
        private void carryOut(Scene scene) {
            for (int x = 0; x < scene.count; x++) {
                Looker one = scene.all[x];
                if (gets[x] != NONE) {
                    one.lose(one.shine);
                    one.gain(gets[x]);
                    one.shine = gets[x];
                }
            }
        }
    }

    /** A shelf: nothing, a row of numbers of one sort, or a looker by his number. */
    private static final class Shelf {
        private final long[] elements = new long[ROW_ROOM];
        private int held;
        private int size;

        private Shelf() {
            held = NONE;
        }

        private boolean isNothing() {
            return held == NONE;
        }

        private boolean isRow() {
            return held >= 0 && held < ROW_SORT_COUNT;
        }

        private boolean isLooker() {
            return held >= FIRST_LOOKER_HELD;
        }

        private void holdNothing() {
            held = NONE;
            size = 0;
        }

        private void holdLooker(int looker) {
            held = FIRST_LOOKER_HELD + looker;
            size = 0;
        }

        private void holdRow(int sort, int n) {
            held = sort;
            size = n;
            Arrays.fill(elements, 0L);
        }

        private boolean hasRun(int from, int n) {
            return from >= 0 && n >= 0 && from <= size && n <= size - from;
        }

        private long elementAt(int i) {
            return isRow() && i >= 0 && i < size ? elements[i] : 0;
        }

        private void put(int i, long v) {
            elements[i] = lowestBits(v);
        }

        private long lowestBits(long v) {
            switch (held) {
                case BYTES:
                    return (byte) v;
                case SHORTS:
                    return (short) v;
                case INTS:
                    return (int) v;
                case BOOLEANS:
                    return v != 0 ? 1 : 0;
                default:
                    return v;
            }
        }
    }

    /** The tape, and how a window is read from it. */
    private static final class Tape {
        private static final int PLACE_WORD = 0;
        private static final int CLEAR_WORD = 1;
        private static final int LOOKER_WORD = 2;
        private static final int LIKES_WORD = 3;
        private static final int COMES_WORD = 4;
        private static final int SHINE_WORD = 5;
        private static final int WORD_COUNT = 6;
        private static final int MOST_DIGITS = 2;

        private final int[] bytes = new int[TAPE_ROOM];
        private int size;
        private int at;
        private int fault;

        private Tape() {
            fault = NONE;
        }

        private boolean add(int letter) {
            if (size >= TAPE_ROOM) {
                return false;
            }
            bytes[size] = letter;
            size++;
            return true;
        }

        private void clear() {
            size = 0;
        }

        /** How many statements were read into a scene, up to the fault, if there is one. */
        private int read(Scene scene) {
            at = 0;
            fault = NONE;
            int statements = 0;
            boolean isMore = true;
            while (isMore && statements < TAPE_ROOM) {
                readStatement(scene);
                statements++;
                isMore = fault == NONE && readSemicolon();
            }
            return statements;
        }

        private boolean readSemicolon() {
            skipBlanks();
            if (at >= size) {
                return false;
            }
            if (bytes[at] != ';') {
                fault = at;
                return false;
            }
            at++;
            return true;
        }

        private void readStatement(Scene scene) {
            skipBlanks();
            int start = at;
            switch (readWord()) {
                case PLACE_WORD:
                    readPlace(scene);
                    break;
                case CLEAR_WORD:
                    readClear(scene);
                    break;
                case LOOKER_WORD:
                    readLooker(scene, start);
                    break;
                case LIKES_WORD:
                    readLikes(scene);
                    break;
                case COMES_WORD:
                    readComes(scene);
                    break;
                case SHINE_WORD:
                    readShine(scene);
                    break;
                default:
                    fault = start;
            }
        }

        private void readPlace(Scene scene) {
            int place = readNumber(PLACE_COUNT - 1);
            int sort = readNumber(SORT_COUNT - 1);
            if (fault == NONE) {
                scene.put(place, sort);
            }
        }

        private void readClear(Scene scene) {
            int place = readNumber(PLACE_COUNT - 1);
            if (fault == NONE) {
                scene.put(place, NONE);
            }
        }

        private void readLooker(Scene scene, int start) {
            if (scene.isFull()) {
                fault = start;
                return;
            }
            int kind = readNumber(KIND_COUNT - 1);
            int a = readNumber(SORT_COUNT - 1);
            int age = readNumber(GREATEST_AGE);
            if (fault == NONE) {
                scene.add(kind, a, age);
            }
        }

        private void readLikes(Scene scene) {
            int x = readNumber(scene.count - 1);
            int sort = readNumber(SORT_COUNT - 1);
            if (fault == NONE) {
                scene.all[x].like(sort, true);
            }
        }

        private void readComes(Scene scene) {
            int x = readNumber(scene.count - 1);
            int comes = readNumber(WAYS_TO_COME);
            if (fault == NONE) {
                scene.all[x].comes = comes;
            }
        }

        private void readShine(Scene scene) {
            int x = readNumber(scene.count - 1);
            int sort = readNumber(SORT_COUNT - 1);
            if (fault == NONE) {
                scene.all[x].shine = sort;
            }
        }

        /** A number from 0 to the greatest that may be; behind a fault nothing is read. */
        private int readNumber(int greatest) {
            if (fault != NONE) {
                return 0;
            }
            skipBlanks();
            int start = at;
            int value = 0;
            while (at < size && isDigit(bytes[at])) {
                if (at - start < MOST_DIGITS) {
                    value = 10 * value + bytes[at] - '0';
                }
                at++;
            }
            int digits = at - start;
            if (digits == 0 || digits > MOST_DIGITS || value > greatest) {
                fault = start;
                return 0;
            }
            return value;
        }

        /** Which word comes; NONE, if none of those that begin a statement does. */
        private int readWord() {
            int start = at;
            while (at < size && bytes[at] >= 'a' && bytes[at] <= 'z') {
                at++;
            }
            for (int word = 0; word < WORD_COUNT; word++) {
                if (isSpelled(spellingOf(word), start)) {
                    return word;
                }
            }
            return NONE;
        }

        /** Whether what was read from a start on is spelled so. */
        private boolean isSpelled(String spelling, int start) {
            if (spelling.length() != at - start) {
                return false;
            }
            for (int i = 0; i < spelling.length(); i++) {
                if (bytes[start + i] != spelling.charAt(i)) {
                    return false;
                }
            }
            return true;
        }

        private static String spellingOf(int word) {
            switch (word) {
                case PLACE_WORD:
                    return "place";
                case CLEAR_WORD:
                    return "clear";
                case LOOKER_WORD:
                    return "looker";
                case LIKES_WORD:
                    return "likes";
                case COMES_WORD:
                    return "comes";
                default:
                    return "shine";
            }
        }

        private void skipBlanks() {
            while (at < size && bytes[at] == ' ') {
                at++;
            }
        }

        private static boolean isDigit(int letter) {
            return letter >= '0' && letter <= '9';
        }
    }
}
