/**
 * Each number that a call is given: on its bounds, just inside, just outside, and the least and the greatest.
 * A refused call answers the number, is counted once, and changes nothing. Promise by promise.
 */
public final class BoundsTest {
    private static final int DRESSED_PLACES = 0b110011011011;

    public static void main(String[] args) {
        rows();
        elements();
        copies();
        shown();
        places();
        lookers();
        told();
        tape();
        lookersTold();
        evenings();
        evenTogether();
        awayAndCrowd();
        setOut();
        whoAndKinds();
        chances();
        counted();
        otherwise();
        swaps();
        judged();
        inTruth();
        status();
        Due.end();
    }

    private static int bit(int set, int i) {
        return set >> i & 1;
    }

    /** What a set leaves of the dressed window: nobody takes what another one wants. */
    private static int leaves(int set) {
        return DRESSED_PLACES - bit(set, 0) * 0b100000000010 - bit(set, 1) * 0b1000000 - bit(set, 2) * 0b10000000000;
    }

    private static void rows() {
        Sentence s = Sentence.of(2, "SHELF s holds a new ROW: 1. BAD.");
        s.bounds("SHELF", Scenes::dressed, 0, 7, (x, v) -> x.row(v, 0, 1), v -> 1);
        s.bounds("SORT OF ITS OWN", Scenes::dressed, 0, 4, (x, v) -> x.row(0, v, 1), v -> 1);
        s.bounds("elements", Scenes::dressed, 0, 40, (x, v) -> x.row(0, 0, v), v -> 1);
        Sentence of = Sentence.of(2, "A ROW has a SORT OF ITS OWN (0 bytes, 1 shorts, 2 ints, 3 longs, 4 booleans) and 0 to 40 elements");
        of.bounds("SORT OF ITS OWN", Scenes::dressed, 0, 4, (x, v) -> x.row(7, v, 1) == 1 ? x.holds(7) : Due.BAD, v -> v);
        of.bounds("the element behind the last", Scenes::dressed, 0, 40, (x, v) -> x.row(7, 3, v) == 1 ? x.set(7, v, 1) : Due.BAD, v -> Due.BAD);
        of.outside("elements", Scenes::dressed, 0, 40, (x, v) -> x.row(1, 3, v));
    }

    private static void elements() {
        Sentence s = Sentence.of(3, "Element i of the ROW in SHELF s becomes v: 1. BAD SHELF; OTHER; NOTHING; BAD i.");
        s.bounds("SHELF", Scenes::dressed, 0, 7, (x, v) -> x.set(v, 0, 9), v -> v < 2 ? 1 : Due.NOTHING);
        s.bounds("i", Scenes::dressed, 0, 3, (x, v) -> x.set(0, v, 9), v -> 1);
        Sentence e = Sentence.of(5, "Element i of the ROW; 0: none, no ROW (nothing is refused).");
        long[] want = {0, 0, -9};
        for (int i = 0; i < 3; i++) {
            int at = i;
            e.asked("element " + i, Scenes::dressed, x -> x.element(1, at), want[i]);
        }
        for (int i : new int[] {Integer.MIN_VALUE, -1, 3, 39, 40, 41, Integer.MAX_VALUE}) {
            e.asked("no element " + i, Scenes::dressed, x -> x.element(1, i), 0);
        }
        for (int shelf : new int[] {Integer.MIN_VALUE, -1, 2, 3, 7, 8, Integer.MAX_VALUE}) {
            e.asked("no ROW " + shelf, Scenes::dressed, x -> x.element(shelf, 0), 0);
        }
        Sentence h = Sentence.of(6, "What SHELF s holds: NONE NOTHING, no SHELF; 0 to 4 a ROW by its SORT OF ITS OWN; 10 and the number of a LOOKER.");
        int[] holds = {0, 3, 11, Due.NONE, Due.NONE, Due.NONE, Due.NONE, Due.NONE};
        for (int shelf = 0; shelf < 8; shelf++) {
            int at = shelf;
            h.asked("SHELF " + shelf, Scenes::dressed, x -> x.holds(at), holds[shelf]);
        }
        for (int shelf : new int[] {Integer.MIN_VALUE, -2, -1, 8, 9, Integer.MAX_VALUE}) {
            h.asked("no SHELF " + shelf, Scenes::dressed, x -> x.holds(shelf), Due.NONE);
        }
    }

    private static void copies() {
        Sentence s = Sentence.of(4, "n elements of the ROW in SHELF p from place i on come to places j on of that in q (as they were): n. BAD SHELVES;");
        s.bounds("p", Scenes::dressed, 0, 7, (x, v) -> x.copy(v, 0, 0, 0, 1), v -> v == 0 ? 1 : v == 1 ? Due.OTHER : Due.NOTHING);
        s.bounds("q", Scenes::dressed, 0, 7, (x, v) -> x.copy(0, v, 0, 0, 1), v -> v == 0 ? 1 : v == 1 ? Due.OTHER : Due.NOTHING);
        Sentence others = Sentence.of(4, "NOTHING; BAD the others.");
        others.bounds("i", Scenes::dressed, 0, 3, (x, v) -> x.copy(0, 0, v, 0, 1), v -> 1);
        others.bounds("j", Scenes::dressed, 0, 3, (x, v) -> x.copy(0, 0, 0, v, 1), v -> 1);
        others.bounds("n", Scenes::dressed, 0, 4, (x, v) -> x.copy(0, 0, 0, 0, v), v -> v);
        others.bounds("n from 2 on", Scenes::dressed, 0, 2, (x, v) -> x.copy(0, 0, 2, 0, v), v -> v);
        others.bounds("n to 3 on", Scenes::dressed, 0, 1, (x, v) -> x.copy(0, 0, 0, 3, v), v -> v);
        others.bounds("i of two", Scenes::dressed, 0, 2, (x, v) -> x.copy(0, 0, v, 0, 2), v -> 2);
        others.bounds("i of four", Scenes::dressed, 0, 0, (x, v) -> x.copy(0, 0, v, 0, 4), v -> v == 0 ? 4 : Due.BAD);
        others.bounds("j of four", Scenes::dressed, 0, 0, (x, v) -> x.copy(0, 0, 0, v, 4), v -> v == 0 ? 4 : Due.BAD);
        Sentence forty = Sentence.of(4, "n elements of the ROW in SHELF p");
        SeenInOrderOfAge x = Scenes.bare();
        x.row(0, 4, 40);
        x.row(7, 4, 40);
        for (int i = 0; i < 40; i++) {
            x.set(0, i, i % 3);
        }
        forty.is("forty of forty", x.copy(0, 7, 0, 0, 40), 40);
        for (int i = 0; i < 40; i++) {
            forty.is("element " + i, x.element(7, i), i % 3 == 0 ? 0 : 1);
        }
    }

    private static void shown() {
        Sentence s = Sentence.of(7, "SHELF s holds a LOOKER, or NOTHING (looker NONE): 1. BAD.");
        s.bounds("SHELF", Scenes::dressed, 0, 7, (x, v) -> x.show(v, 0), v -> 1);
        s.bounds("SHELF of NOTHING", Scenes::dressed, 0, 7, (x, v) -> x.show(v, Due.NONE), v -> 1);
        s.bounds("looker", Scenes::dressed, Due.NONE, 2, (x, v) -> x.show(0, v), v -> 1);
        s.bounds("looker of eight", Scenes::eight, Due.NONE, 7, (x, v) -> x.show(0, v), v -> 1);
        s.bounds("looker of nobody", Scenes::bare, Due.NONE, Due.NONE, (x, v) -> x.show(0, v), v -> v == Due.NONE ? 1 : Due.BAD);
        Sentence h = Sentence.of(6, "10 and the number of a LOOKER");
        h.bounds("looker of eight", Scenes::eight, Due.NONE, 7, (x, v) -> x.show(0, v) == 1 ? x.holds(0) : Due.BAD, v -> v < 0 ? v : 10 + v);
        Sentence says = Sentence.of(8, "BAD SHELF, KIND;");
        says.asksBounds("SHELF", Scenes::dressed, 0, 7, (x, v) -> x.says(v, 0), v -> v < 2 ? Due.OTHER : Due.NOTHING);
        says.asksBounds("KIND of an OLD one", Scenes::dressed, 0, 5, (x, v) -> x.says(2, v), v -> v == 0 ? 70 : Due.OTHER);
        says.asked("an OLD one as OLD", Scenes::dressed, x -> x.says(2, Due.OLD), 0b1000000);
        says.asksBounds("KIND of a ROW", Scenes::dressed, 0, 5, (x, v) -> x.says(0, v), v -> Due.OTHER);
        says.asksBounds("KIND of NOTHING", Scenes::dressed, 0, 5, (x, v) -> x.says(5, v), v -> Due.NOTHING);
    }

    private static void places() {
        Sentence s = Sentence.of(9, "A PLACE has a THING of a SORT, or nothing (sort NONE): which SORT was there (NONE). BAD. (NONE isn't refused.)");
        s.bounds("PLACE", Scenes::dressed, 0, 11, (x, v) -> x.place(v, 6), v -> v == 0 ? 5 : v == 10 ? 3 : 1);
        s.bounds("PLACE cleared", Scenes::dressed, 0, 11, (x, v) -> x.place(v, Due.NONE), v -> v == 0 ? 5 : v == 10 ? 3 : 1);
        s.bounds("SORT", Scenes::dressed, Due.NONE, 7, (x, v) -> x.place(0, v), v -> 5);
        s.bounds("SORT into an empty PLACE", Scenes::dressed, Due.NONE, 7, (x, v) -> x.place(2, v), v -> Due.NONE);
        s.bounds("SORT that is there then", Scenes::dressed, Due.NONE, 7, (x, v) -> x.place(0, v) == 5 ? x.sortAt(0) : Due.BAD, v -> v);
        Sentence at = Sentence.of(16, "Which SORT is in a PLACE; NONE. BAD. (NONE isn't refused.)");
        at.asksBounds("PLACE", Scenes::dressed, 0, 11, (x, v) -> x.sortAt(v), v -> v == 0 ? 5 : v == 10 ? 3 : 1);
        at.asksBounds("empty PLACE", Scenes::bare, 0, 11, (x, v) -> x.sortAt(v), v -> Due.NONE);
    }

    private static void lookers() {
        Sentence s = Sentence.of(10, "A LOOKER: the number. BAD; FULL.");
        s.bounds("KIND", Scenes::dressed, 0, 5, (x, v) -> x.looker(v, 0, 0), v -> 3);
        s.bounds("a", Scenes::dressed, 0, 7, (x, v) -> x.looker(0, v, 0), v -> 3);
        s.bounds("AGE", Scenes::dressed, 0, 99, (x, v) -> x.looker(0, 0, v), v -> 3);
        s.bounds("KIND that he is of", Scenes::dressed, 0, 5, (x, v) -> x.looker(v, 0, 0) == 3 ? x.lookerOf(3, 0) : Due.BAD, v -> v);
        s.bounds("a that he has", Scenes::dressed, 0, 7, (x, v) -> x.looker(0, v, 0) == 3 ? x.lookerOf(3, 1) : Due.BAD, v -> v);
        s.bounds("AGE that he has", Scenes::dressed, 0, 99, (x, v) -> x.looker(0, 0, v) == 3 ? x.lookerOf(3, 2) : Due.BAD, v -> v);
        Sentence full = Sentence.of(10, "LOOKERS have numbers, 0 on, 8 at most");
        SeenInOrderOfAge y = Scenes.bare();
        for (int i = 0; i < 8; i++) {
            full.is("number " + i, y.looker(0, 0, 0), i);
        }
        full.refused("a ninth", Scenes::eight, x -> x.looker(0, 0, 0), Due.FULL);
        full.refused("a ninth on the bounds", Scenes::eight, x -> x.looker(5, 7, 99), Due.FULL);
        Sentence likes = Sentence.of(11, "whether he did (1, 0). BAD.");
        likes.bounds("looker", Scenes::dressed, 0, 2, (x, v) -> x.likes(v, 2, true), v -> v == 0 ? 1 : 0);
        likes.bounds("looker who does no more", Scenes::dressed, 0, 2, (x, v) -> x.likes(v, 2, false), v -> v == 0 ? 1 : 0);
        likes.bounds("looker of nobody", Scenes::bare, 0, -1, (x, v) -> x.likes(v, 2, true), v -> Due.BAD);
        likes.bounds("SORT", Scenes::dressed, 0, 7, (x, v) -> x.likes(0, v, true), v -> 0);
        likes.bounds("SORT of all he LIKES", Scenes::dressed, 0, 7, (x, v) -> x.likes(0, v, true) == 0 ? x.lookerOf(0, 3) : Due.BAD,
            v -> 4 + (1 << v));
    }

    private static void told() {
        Sentence s = Sentence.of(12, "COMES (what 0), AGE (1), SHINE (2; also NONE) of one becomes v: what it was. BAD. (NONE isn't refused.)");
        int[] comes = {6, 6, 3};
        s.bounds("looker", Scenes::dressed, 0, 2, (x, v) -> x.tell(v, 0, 5), v -> comes[v]);
        s.bounds("looker of nobody", Scenes::bare, 0, -1, (x, v) -> x.tell(v, 0, 5), v -> Due.BAD);
        s.bounds("what", Scenes::dressed, 0, 2, (x, v) -> x.tell(1, v, 5), v -> v == 1 ? 70 : 6);
        s.bounds("COMES", Scenes::dressed, 0, 12, (x, v) -> x.tell(2, 0, v), v -> 3);
        s.bounds("AGE", Scenes::dressed, 0, 99, (x, v) -> x.tell(2, 1, v), v -> 30);
        s.bounds("SHINE", Scenes::dressed, Due.NONE, 7, (x, v) -> x.tell(0, 2, v), v -> 1);
        s.bounds("SHINE that was NONE", Scenes::dressed, Due.NONE, 7, (x, v) -> x.tell(2, 2, v), v -> Due.NONE);
        s.bounds("COMES then", Scenes::dressed, 0, 12, (x, v) -> x.tell(2, 0, v) == 3 ? x.lookerOf(2, 4) : Due.BAD, v -> v);
        s.bounds("AGE then", Scenes::dressed, 0, 99, (x, v) -> x.tell(2, 1, v) == 30 ? x.lookerOf(2, 2) : Due.BAD, v -> v);
        s.bounds("SHINE then", Scenes::dressed, Due.NONE, 7, (x, v) -> x.tell(0, 2, v) == 1 ? x.lookerOf(0, 5) : Due.BAD, v -> v);
    }

    private static void tape() {
        Sentence s = Sentence.of(13, "THE TAPE gets one byte (0 to 255) behind it: its size. BAD; FULL.");
        s.bounds("byte", Scenes::dressed, 0, 255, (x, v) -> x.feed(v), v -> 8);
        s.bounds("first byte", Scenes::bare, 0, 255, (x, v) -> x.feed(v), v -> 1);
        Sentence full = Sentence.of(13, "THE TAPE (bytes, 250 at most)");
        full.is("250 there are", Scenes.fullTape().status(5), 250);
        full.refused("a 251st", Scenes::fullTape, x -> x.feed(' '), Due.FULL);
        full.refused("a 251st on the bound", Scenes::fullTape, x -> x.feed(255), Due.FULL);
        full.outside("a 251st that may not be", Scenes::fullTape, 0, 255, (x, v) -> x.feed(v));
        full.is("250 are read", Scenes.fullTape().window(), 1);
        Sentence wipe = Sentence.of(14, "THE TAPE is empty: its size ahead.");
        wipe.is("of none", Scenes.bare().wipe(), 0);
        wipe.is("of seven", Scenes.dressed().wipe(), 7);
        SeenInOrderOfAge x = Scenes.fullTape();
        wipe.is("of 250", x.wipe(), 250);
        wipe.is("size then", x.status(5), 0);
        wipe.is("wiped again", x.wipe(), 0);
        wipe.is("room again", x.feed(255), 1);
        wipe.is("nothing is refused", x.status(12) + x.status(16), 0);
    }

    private static void lookersTold() {
        Sentence s = Sentence.of(17, "Of a LOOKER: KIND (0), a (1), AGE (2), LIKES (3; a not unless told), COMES (4), SHINE (5; NONE), HAS of SORT 0 to 7 (10 to 17). BAD.");
        int[] ages = {9, 70, 30};
        s.asksBounds("looker", Scenes::dressed, 0, 2, (x, v) -> x.lookerOf(v, 2), v -> ages[v]);
        s.asksBounds("looker of eight", Scenes::eight, 0, 7, (x, v) -> x.lookerOf(v, 2), v -> 10 * v);
        s.asksBounds("looker of nobody", Scenes::bare, 0, -1, (x, v) -> x.lookerOf(v, 2), v -> Due.BAD);
        int[] child = {1, 1, 9, 4, 6, 1};
        s.asksBounds("what of one", Scenes::dressed, 0, 5, (x, v) -> x.lookerOf(0, v), v -> child[v]);
        s.asksBounds("HAS", Scenes::dressed, 10, 17, (x, v) -> x.lookerOf(0, v), v -> v == 11 ? 2 : 0);
        for (int what = 6; what < 10; what++) {
            int w = what;
            s.refused("no what " + what, Scenes::dressed, x -> x.lookerOf(0, w), Due.BAD);
        }
        s.asked("SHINE NONE", Scenes::dressed, x -> x.lookerOf(2, 5), Due.NONE);
    }

    private static void evenings() {
        Sentence bad = Sentence.of(18, "LEFT, if a set comes. BAD.");
        bad.asksBounds("left, of three", Scenes::dressed, 0, 7, (x, v) -> x.left(v), BoundsTest::leaves);
        bad.asksBounds("left, of nobody", Scenes::nobody, 0, 0, (x, v) -> x.left(v), v -> v == 0 ? 0b101000000011 : Due.BAD);
        bad.outside("left, of eight", Scenes::eight, 0, 255, (x, v) -> x.left(v));
        bad.asked("all of eight", Scenes::eight, x -> x.left(255), 0);
        Sentence taken = Sentence.of(19, "TAKEN by one, if a set comes (0: he isn't in it). BAD.");
        taken.asksBounds("set", Scenes::dressed, 0, 7, (x, v) -> x.taken(v, 1), v -> bit(v, 1) * 0b1000000);
        int[] takes = {0b100000000010, 0b1000000, 0b10000000000};
        taken.asksBounds("looker", Scenes::dressed, 0, 2, (x, v) -> x.taken(7, v), v -> takes[v]);
        taken.asksBounds("looker who isn't in it", Scenes::dressed, 0, 2, (x, v) -> x.taken(0, v), v -> 0);
        taken.asksBounds("looker of nobody", Scenes::nobody, 0, -1, (x, v) -> x.taken(0, v), v -> Due.BAD);
        Sentence glad = Sentence.of(20, "GLAD (what 0), EMPTY (1) of a set. BAD.");
        glad.asksBounds("set", Scenes::dressed, 0, 7, (x, v) -> x.glad(v, 0), v -> bit(v, 0) + bit(v, 2));
        glad.asksBounds("set, EMPTY", Scenes::dressed, 0, 7, (x, v) -> x.glad(v, 1), v -> 0);
        glad.asksBounds("what", Scenes::dressed, 0, 1, (x, v) -> x.glad(7, v), v -> v == 0 ? 2 : 0);
        Sentence order = Sentence.of(21, "The i-th who looks, if a set comes. BAD: also no such i.");
        int[] first = {Due.BAD, 0, 1, 0, 2, 0, 2, 0};
        order.asksBounds("set", Scenes::dressed, 0, 7, (x, v) -> x.order(v, 0), v -> first[v]);
        int[] all = {0, 2, 1};
        order.asksBounds("i", Scenes::dressed, 0, 2, (x, v) -> x.order(7, v), v -> all[v]);
        order.asksBounds("i of one", Scenes::dressed, 0, 0, (x, v) -> x.order(2, v), v -> v == 0 ? 1 : Due.BAD);
        order.asksBounds("i of eight", Scenes::eight, 0, 7, (x, v) -> x.order(255, v), v -> v);
        order.asksBounds("i of nobody", Scenes::dressed, 0, -1, (x, v) -> x.order(0, v), v -> Due.BAD);
    }

    private static void evenTogether() {
        Sentence glad = Sentence.of(35, "LOOKERS (bits) who are GLAD, if a set comes. BAD.");
        glad.asksBounds("set", Scenes::dressed, 0, 7, (x, v) -> x.gladOnes(v), v -> v & 5);
        glad.outside("set of eight", Scenes::eight, 0, 255, (x, v) -> x.gladOnes(v));
        Sentence empty = Sentence.of(36, "LOOKERS (bits) of a set who take nothing, if it comes. BAD.");
        empty.asksBounds("set", Scenes::dressed, 0, 7, (x, v) -> x.empty(v), v -> 0);
        empty.asksBounds("set of eight", Scenes::eight, 0, 255, (x, v) -> x.empty(v), v -> v & 0b11110001);
        Sentence without = Sentence.of(37, "How many of all the others are GLAD, if all come but one. BAD.");
        int[] others = {1, 2, 1};
        without.asksBounds("looker", Scenes::dressed, 0, 2, (x, v) -> x.without(v), v -> others[v]);
        without.asksBounds("looker of nobody", Scenes::nobody, 0, -1, (x, v) -> x.without(v), v -> Due.BAD);
        Sentence twice = Sentence.of(41, "LEFT, if a set comes, and behind it another (nothing set out between). BAD.");
        twice.asksBounds("set", Scenes::dressed, 0, 7, (x, v) -> x.twice(v, 0), BoundsTest::leaves);
        twice.asksBounds("then", Scenes::dressed, 0, 7, (x, v) -> x.twice(0, v), BoundsTest::leaves);
        twice.asked("all twice", Scenes::dressed, x -> x.twice(7, 7), 0b1001);
        Sentence unlike = Sentence.of(42, "How many unlike SORTS are LEFT, if a set comes. BAD.");
        unlike.asksBounds("set", Scenes::dressed, 0, 7, (x, v) -> x.unlike(v), v -> 7 - Integer.bitCount(v));
        unlike.outside("set of eight", Scenes::eight, 0, 255, (x, v) -> x.unlike(v));
    }

    private static void awayAndCrowd() {
        Sentence away = Sentence.of(22, "AWAY of one: how many (what 0; NONE), the set (1; NONE). BAD. (NONE isn't refused.)");
        away.asksBounds("looker", Scenes::dressed, 0, 2, (x, v) -> x.away(v, 0), v -> v == 1 ? Due.NONE : 0);
        away.asksBounds("looker, the set", Scenes::dressed, 0, 2, (x, v) -> x.away(v, 1), v -> v == 1 ? Due.NONE : 0);
        away.asksBounds("what", Scenes::dressed, 0, 1, (x, v) -> x.away(0, v), v -> 0);
        away.asksBounds("what of one for whom it can't be", Scenes::dressed, 0, 1, (x, v) -> x.away(1, v), v -> Due.NONE);
        away.asksBounds("looker of nobody", Scenes::nobody, 0, -1, (x, v) -> x.away(v, 0), v -> Due.BAD);
        Sentence crowd = Sentence.of(23, "CROWD of k (0 to as many as there are): how many are GLAD (what 0), the set (1). BAD.");
        int[] glad = {0, 1, 2, 2};
        int[] sets = {0, 1, 5, 7};
        crowd.asksBounds("k", Scenes::dressed, 0, 3, (x, v) -> x.crowd(v, 0), v -> glad[v]);
        crowd.asksBounds("k, the set", Scenes::dressed, 0, 3, (x, v) -> x.crowd(v, 1), v -> sets[v]);
        crowd.asksBounds("k of nobody", Scenes::nobody, 0, 0, (x, v) -> x.crowd(v, 1), v -> v == 0 ? 0 : Due.BAD);
        crowd.asksBounds("k of eight", Scenes::eight, 0, 8, (x, v) -> x.crowd(v, 1), v -> v < 2 ? (v == 0 ? 0 : 2) : v == 7 ? 127 : 255);
        crowd.asksBounds("what", Scenes::dressed, 0, 1, (x, v) -> x.crowd(2, v), v -> v == 0 ? 2 : 5);
    }

    /** For all three a one must be put before and one behind, up to the place behind the last that the OLD one LIKES. */
    private static void setOut() {
        Sentence s = Sentence.of(24, "SET OUT for a set: how many (i NONE; NONE), the i-th SORT. BAD; STUCK: not so many. (NONE isn't refused.)");
        int[] number = {0, 0, 3, 3, 0, 0, 3, 3};
        s.asksBounds("set", Scenes::dressed, 0, 7, (x, v) -> x.setOut(v, Due.NONE), v -> number[v]);
        s.outside("set of eight", Scenes::eight, 0, 255, (x, v) -> x.setOut(v, Due.NONE));
        s.asksBounds("set of nobody", Scenes::nobody, 0, 0, (x, v) -> x.setOut(v, Due.NONE), v -> v == 0 ? 0 : Due.BAD);
        int[] row = {1, 1, 2};
        s.asked("how many", Scenes::dressed, x -> x.setOut(7, Due.NONE), 3);
        for (int i = 0; i < 3; i++) {
            int at = i;
            s.asked("SORT " + i, Scenes::dressed, x -> x.setOut(7, at), row[i]);
        }
        for (int i : new int[] {3, 4, Integer.MAX_VALUE}) {
            s.refused("not so many " + i, Scenes::dressed, x -> x.setOut(7, i), Due.STUCK);
        }
        for (int i : new int[] {0, 1, Integer.MAX_VALUE}) {
            s.refused("none of none " + i, Scenes::dressed, x -> x.setOut(5, i), Due.STUCK);
        }
        for (int i : new int[] {-2, -3, Integer.MIN_VALUE}) {
            s.refused("i " + i, Scenes::dressed, x -> x.setOut(7, i), Due.BAD);
        }
    }

    private static void whoAndKinds() {
        Sentence who = Sentence.of(25, "who came in all (2; NONE: there are no sets), in some (3). BAD: also no such PLACES. (NONE isn't refused.)");
        who.asksBounds("LEFT, how many", Scenes::dressed, 0, 4095, (x, v) -> x.who(v, 0), v -> 0);
        who.asksBounds("LEFT, the first", Scenes::dressed, 0, 4095, (x, v) -> x.who(v, 1), v -> Due.NONE);
        who.asksBounds("LEFT, in all", Scenes::dressed, 0, 4095, (x, v) -> x.who(v, 2), v -> Due.NONE);
        who.asksBounds("LEFT, in some", Scenes::dressed, 0, 4095, (x, v) -> x.who(v, 3), v -> 0);
        who.asksBounds("what", Scenes::dressed, 0, 3, (x, v) -> x.who(leaves(7), v), v -> v == 0 ? 1 : 7);
        who.asksBounds("what of nobody who came", Scenes::dressed, 0, 3, (x, v) -> x.who(leaves(0), v), v -> v == 0 ? 1 : 0);
        Sentence kinds = Sentence.of(26, "KINDS (what 0), WISHES (1) of one by PLACES told TAKEN, if a set comes. BAD: also he isn't in it.");
        int[] byNothing = {0, 16, 16};
        kinds.asksBounds("looker", Scenes::dressed, 0, 2, (x, v) -> x.kinds(7, v, 0, 0), v -> byNothing[v]);
        kinds.asksBounds("TAKEN", Scenes::dressed, 0, 4095, (x, v) -> x.kinds(7, 1, v, 0), v -> v == 0 ? 16 : 0);
        kinds.asksBounds("what", Scenes::dressed, 0, 1, (x, v) -> x.kinds(7, 1, 0b1000000, v), v -> v == 0 ? 4 : 127);
        kinds.outside("set", Scenes::dressed, 1, 7, (x, v) -> x.kinds(v, 0, 0, 0));
        for (int set = 0; set < 8; set++) {
            int those = set;
            for (int looker = 0; looker < 3; looker++) {
                int one = looker;
                if (bit(set, looker) == 0) {
                    kinds.refused(looker + " isn't in " + set, Scenes::dressed, x -> x.kinds(those, one, 0, 0), Due.BAD);
                    kinds.refused(looker + " isn't in " + set + ", WISHES", Scenes::dressed, x -> x.kinds(those, one, 0, 1), Due.BAD);
                } else {
                    kinds.asked(looker + " is in " + set, Scenes::dressed, x -> x.kinds(those, one, 0, 0), byNothing[looker]);
                }
            }
        }
        kinds.refused("no looker 3, though bit 3 is told", Scenes::dressed, x -> x.kinds(8, 3, 0, 0), Due.BAD);
        kinds.refused("no looker 32, though bit 0 is told", Scenes::dressed, x -> x.kinds(1, 32, 0, 0), Due.BAD);
    }

    private static void chances() {
        Sentence odds = Sentence.of(27, "ODDS of a PLACE. BAD; STUCK: it is empty.");
        int[] of = {1000000, 500000, 750000, 500000};
        odds.asksBounds("PLACE", Scenes::dressed, 0, 11, (x, v) -> x.odds(v), v -> of[v < 2 ? v : v - 8]);
        odds.asksBounds("empty PLACE", Scenes::bare, 0, 11, (x, v) -> x.odds(v), v -> Due.STUCK);
        Sentence likely = Sentence.of(28, "LIKELY of one. BAD.");
        likely.asksBounds("looker", Scenes::dressed, 0, 2, (x, v) -> x.likely(v), v -> v == 1 ? 0 : 1000000);
        likely.asksBounds("looker of eight", Scenes::eight, 0, 7, (x, v) -> x.likely(v), v -> v == 1 ? 1000000 : 0);
        likely.asksBounds("looker of nobody", Scenes::nobody, 0, -1, (x, v) -> x.likely(v), v -> Due.BAD);
        Sentence glad = Sentence.of(29, "how likely m (0 to 8) at least of those who come are GLAD, each by COMES. BAD.");
        glad.asksBounds("m", Scenes::dressed, 0, 8, (x, v) -> x.gladOdds(v), v -> v == 0 ? 1000000 : v == 1 ? 625000 : 0);
        glad.asksBounds("m of nobody", Scenes::bare, 0, 8, (x, v) -> x.gladOdds(v), v -> v == 0 ? 1000000 : 0);
        Sentence mean = Sentence.of(30, "1000 times how many THINGS are left on the mean (cut), each coming by COMES.");
        mean.asked("of the dressed", Scenes::dressed, x -> x.meanLeft(), 8000 - 1000 - 500 - 250);
        mean.asked("of nobody", Scenes::nobody, x -> x.meanLeft(), 4000);
        mean.asked("of nothing", Scenes::bare, x -> x.meanLeft(), 0);
    }

    private static void counted() {
        Sentence sorts = Sentence.of(31, "How many THINGS of a SORT are in the WINDOW (what 0), how many LOOKERS LIKE it, a counting, too (1), have it as a (2). BAD.");
        int[] things = {1, 2, 1, 1, 1, 1, 0, 1};
        sorts.asksBounds("SORT", Scenes::dressed, 0, 7, (x, v) -> x.sorts(v, 0), v -> things[v]);
        sorts.asksBounds("SORT they LIKE", Scenes::dressed, 0, 7, (x, v) -> x.sorts(v, 1), v -> v % 6 == 0 ? 0 : 1);
        sorts.asksBounds("SORT as a", Scenes::dressed, 0, 7, (x, v) -> x.sorts(v, 2), v -> v == 1 ? 1 : 0);
        sorts.asksBounds("what", Scenes::dressed, 0, 2, (x, v) -> x.sorts(2, v), v -> v == 1 ? 2 : 1);
        Sentence rare = Sentence.of(32, "The SORT in the WINDOW with fewest THINGS (what 0), most (1), of several the least. BAD; STUCK: no THINGS.");
        rare.asksBounds("what", Scenes::dressed, 0, 1, (x, v) -> x.rare(v), v -> v);
        rare.asksBounds("what, but no THINGS", Scenes::bare, 0, 1, (x, v) -> x.rare(v), v -> Due.STUCK);
        Sentence first = Sentence.of(33, "Who is youngest (what 0), eldest (1), has most THINGS (2), of several the first. BAD; STUCK: nobody.");
        first.asksBounds("what", Scenes::dressed, 0, 2, (x, v) -> x.first(v), v -> v == 1 ? 1 : 0);
        first.asksBounds("what, but nobody", Scenes::nobody, 0, 2, (x, v) -> x.first(v), v -> Due.STUCK);
        Sentence places = Sentence.of(34, "PLACES (bits) with a THING.");
        places.asked("of the dressed", Scenes::dressed, x -> x.places(), DRESSED_PLACES);
        places.asked("of none", Scenes::bare, x -> x.places(), 0);
        places.asked("of all", () -> Due.window("012345670123"), x -> x.places(), 4095);
    }

    private static void otherwise() {
        Sentence exchanged = Sentence.of(38, "How many are GLAD, if all come and two have each other's AGE. BAD: also the same.");
        exchanged.outside("looker", Scenes::dressed, 0, 2, (x, v) -> x.exchanged(v, 1));
        exchanged.outside("other", Scenes::dressed, 0, 2, (x, v) -> x.exchanged(1, v));
        for (int looker = 0; looker < 3; looker++) {
            for (int other = 0; other < 3; other++) {
                int one = looker;
                int two = other;
                if (looker == other) {
                    exchanged.refused("the same " + looker, Scenes::dressed, x -> x.exchanged(one, two), Due.BAD);
                } else {
                    exchanged.asked(looker + " and " + other, Scenes::dressed, x -> x.exchanged(one, two), 2);
                }
            }
        }
        exchanged.refused("both the same who isn't there", Scenes::dressed, x -> x.exchanged(3, 3), Due.BAD);
        exchanged.asked("of eight", Scenes::eight, x -> x.exchanged(7, 0), 3);
        exchanged.refused("a ninth", Scenes::eight, x -> x.exchanged(7, 8), Due.BAD);
        Sentence pair = Sentence.of(39, "10 times the lesser and the other; NONE: fewer than two.");
        pair.asked("of the dressed", Scenes::dressed, x -> x.bestPair(), 1);
        pair.asked("of nobody", Scenes::nobody, x -> x.bestPair(), Due.NONE);
        Sentence oldest = Sentence.of(40, "NONE: at none. BAD. (NONE isn't refused.)");
        oldest.asksBounds("looker", Scenes::dressed, 0, 2, (x, v) -> x.oldest(v), v -> v == 1 ? Due.NONE : 99);
        oldest.asksBounds("looker of nobody", Scenes::nobody, 0, -1, (x, v) -> x.oldest(v), v -> Due.BAD);
    }

    private static void swaps() {
        Sentence next = Sentence.of(43, "SWAPS: NEXT of one; NONE. BAD. (NONE isn't refused.)");
        int[] gets = {1, 6, Due.NONE};
        next.asksBounds("looker", Scenes::dressed, 0, 2, (x, v) -> x.next(v), v -> gets[v]);
        next.asksBounds("looker of nobody", Scenes::nobody, 0, -1, (x, v) -> x.next(v), v -> Due.BAD);
        Sentence swapped = Sentence.of(44, "SWAPS: how many get another SORT.");
        swapped.asked("of the dressed", Scenes::dressed, x -> x.swapped(), 0);
        swapped.asked("of nobody", Scenes::nobody, x -> x.swapped(), 0);
    }

    private static void judged() {
        Sentence s = Sentence.of(45, "WRONG of a told EVENING by the first n pairs (0 to 20) of the ROW in SHELF s; NONE. BAD SHELF, n; OTHER; NOTHING; BAD: fewer elements.");
        s.asksBounds("SHELF", Scenes::dressed, 0, 7, (x, v) -> x.judge(v, 0), v -> v < 2 ? Due.NONE : Due.NOTHING);
        s.asksBounds("n of four elements", Scenes::dressed, 0, 2, (x, v) -> x.judge(0, v), v -> v == 0 ? Due.NONE : 0);
        s.asksBounds("n of three elements", Scenes::dressed, 0, 1, (x, v) -> x.judge(1, v), v -> v == 0 ? Due.NONE : 0);
        s.asksBounds("n of forty elements", BoundsTest::forty, 0, 20, (x, v) -> x.judge(3, v), v -> v == 0 ? Due.NONE : 0);
        s.refused("twenty of 39 elements", BoundsTest::thirtyNine, x -> x.judge(3, 20), Due.BAD);
        s.asked("nineteen of 39 elements", BoundsTest::thirtyNine, x -> x.judge(3, 19), 0);
        s.refused("one of none", () -> {
            SeenInOrderOfAge x = Scenes.dressed();
            x.row(0, 2, 0);
            return x;
        }, x -> x.judge(0, 1), Due.BAD);
    }

    private static SeenInOrderOfAge forty() {
        SeenInOrderOfAge x = Scenes.dressed();
        x.row(3, 1, 40);
        x.set(3, 39, 5);
        return x;
    }

    private static SeenInOrderOfAge thirtyNine() {
        SeenInOrderOfAge x = Scenes.dressed();
        x.row(3, 1, 39);
        return x;
    }

    private static void inTruth() {
        Sentence evening = Sentence.of(46, "An EVENING in truth: how many THINGS were taken. BAD.");
        evening.bounds("set", Scenes::dressed, 0, 7, (x, v) -> x.evening(v), v -> 2 * bit(v, 0) + bit(v, 1) + bit(v, 2));
        evening.outside("set of eight", Scenes::eight, 0, 255, (x, v) -> x.evening(v));
        evening.bounds("set of nobody", Scenes::nobody, 0, 0, (x, v) -> x.evening(v), v -> v == 0 ? 0 : Due.BAD);
        Sentence christmases = Sentence.of(48, "CHRISTMASES (n 1 to 40): how many THINGS. BAD.");
        christmases.bounds("n without anybody", Scenes::nobody, 1, 40, (x, v) -> x.christmases(v), v -> 0);
        christmases.bounds("n, EVENINGS", Scenes::nobody, 1, 40, (x, v) -> x.christmases(v) == 0 ? x.status(3) : Due.BAD, v -> v);
        christmases.outside("n", Scenes::dressed, 1, 40, (x, v) -> x.christmases(v));
        Sentence seed = Sentence.of(49, "SEED becomes v: the one ahead.");
        for (int v : new int[] {Integer.MIN_VALUE, Integer.MIN_VALUE + 1, -1, 0, 1, Integer.MAX_VALUE - 1, Integer.MAX_VALUE}) {
            SeenInOrderOfAge x = Scenes.dressed();
            seed.is("the one ahead of " + v, x.seed(v), 77);
            seed.is("then", x.status(6), v);
            seed.is("ahead of the next", x.seed(0), v);
            seed.is("nothing is refused", x.status(12), 1);
        }
        Sentence stuck = Sentence.of(51, "STUCK: nothing was.");
        stuck.refused("nothing was kept", Scenes::nobody, x -> x.back(), Due.STUCK);
        stuck.refused("nothing was kept of eight", Scenes::eight, x -> x.back(), Due.STUCK);
    }

    private static void status() {
        Sentence s = Sentence.of(52, "12 to 16: REFUSALS -2 to -6. NONE another what.");
        int[] want = {3, 8, 2, 1, 2, 7, 77, 3};
        for (int what = 0; what < 8; what++) {
            int w = what;
            s.asked("status " + what, Scenes::dressed, x -> x.status(w), want[what]);
        }
        for (int what = 12; what < 17; what++) {
            int w = what;
            s.asked("REFUSALS " + (10 - what), Scenes::dressed, x -> x.status(w), what == 16 ? 0 : 1);
        }
        for (int what : new int[] {Integer.MIN_VALUE, Integer.MIN_VALUE + 11, Integer.MIN_VALUE + 12, -6, -2, -1, 8, 11, 17, 18, Integer.MAX_VALUE}) {
            s.asked("another what " + what, Scenes::dressed, x -> x.status(what), Due.NONE);
        }
    }
}
