/**
 * "the first that fits as each line has them": calls that more than one refusal fits, promise by promise; and
 * each refusal of a line for itself. A refused call answers the number, is counted once, and changes nothing.
 */
public final class RefusalsTest {
    public static void main(String[] args) {
        counted();
        bad();
        otherAndNothing();
        stuckAndFull();
        set();
        copyOfShelves();
        copyOfOthers();
        says();
        badBeforeFull();
        badBeforeStuck();
        stuck();
        judge();
        window();
        neverRefused();
        Due.end();
    }

    /** Shelf 0 four bytes, 1 three longs, 2 a looker, 3 none, 4 three longs, 5 another looker, 6 no elements. */
    private static SeenInOrderOfAge shelves() {
        SeenInOrderOfAge x = Scenes.dressed();
        x.row(4, 3, 3);
        x.show(5, 0);
        x.row(6, 3, 0);
        return x;
    }

    private static void counted() {
        Sentence s = Sentence.of(52, "12 to 16: REFUSALS -2 to -6.");
        SeenInOrderOfAge x = shelves();
        int[] before = {x.status(12), x.status(13), x.status(14), x.status(15), x.status(16)};
        for (int i = 0; i < 3; i++) {
            x.set(2, 0, 0);
            x.says(3, 0);
            x.says(7, 0);
        }
        x.left(8);
        x.odds(2);
        x.odds(5);
        s.is("BAD", x.status(12) - before[0], 1);
        s.is("OTHER", x.status(13) - before[1], 3);
        s.is("NOTHING", x.status(14) - before[2], 6);
        s.is("STUCK", x.status(15) - before[3], 2);
        s.is("FULL", x.status(16) - before[4], 0);
        Sentence zero = Sentence.of(1, "An empty WINDOW, no LOOKERS; SHELVES hold NOTHING; THE TAPE is empty.");
        for (int what = 12; what < 17; what++) {
            zero.is("REFUSALS at first " + what, Scenes.bare().status(what), 0);
        }
    }

    private static void bad() {
        Sentence s = Sentence.of(18, "-2 BAD a number that may not be, nothing of that number (also a set with LOOKERS that aren't there).");
        s.refused("a number that may not be", Scenes::dressed, x -> x.tell(0, 0, 13), Due.BAD);
        s.refused("no PLACE of that number", Scenes::dressed, x -> x.sortAt(12), Due.BAD);
        s.refused("no LOOKER of that number", Scenes::dressed, x -> x.without(3), Due.BAD);
        s.refused("one who isn't there", Scenes::dressed, x -> x.left(8), Due.BAD);
        s.refused("one who is, and one who isn't", Scenes::dressed, x -> x.left(9), Due.BAD);
        s.refused("all, and one who isn't", Scenes::dressed, x -> x.left(15), Due.BAD);
        s.refused("the last bit", Scenes::dressed, x -> x.left(Integer.MIN_VALUE), Due.BAD);
        s.refused("all, and the last bit", Scenes::dressed, x -> x.left(Integer.MIN_VALUE + 7), Due.BAD);
        s.refused("all, and bit 8", Scenes::eight, x -> x.left(511), Due.BAD);
        s.refused("anybody before a window that nobody looks at", Scenes::nobody, x -> x.left(1), Due.BAD);
    }

    private static void otherAndNothing() {
        Sentence other = Sentence.of(3, "-3 OTHER: a SHELF that holds another thing than is wanted.");
        Sentence nothing = Sentence.of(3, "-4 NOTHING: a SHELF that holds NOTHING.");
        other.refused("a LOOKER, a ROW is wanted", RefusalsTest::shelves, x -> x.set(2, 0, 1), Due.OTHER);
        other.refused("a LOOKER, a told EVENING is wanted", RefusalsTest::shelves, x -> x.judge(5, 1), Due.OTHER);
        other.refused("a LOOKER, a ROW to copy is wanted", RefusalsTest::shelves, x -> x.copy(5, 5, 0, 0, 0), Due.OTHER);
        other.refused("a ROW, a LOOKER is wanted", RefusalsTest::shelves, x -> x.says(6, 0), Due.OTHER);
        nothing.refused("a ROW is wanted", RefusalsTest::shelves, x -> x.set(7, 0, 1), Due.NOTHING);
        nothing.refused("a told EVENING is wanted", RefusalsTest::shelves, x -> x.judge(7, 1), Due.NOTHING);
        nothing.refused("a ROW to copy is wanted", RefusalsTest::shelves, x -> x.copy(7, 3, 0, 0, 0), Due.NOTHING);
        nothing.refused("a LOOKER is wanted", RefusalsTest::shelves, x -> x.says(7, 0), Due.NOTHING);
        Sentence shelves = Sentence.of(7, "SHELVES 0 to 7 hold NOTHING (at first), a ROW, or a LOOKER.");
        for (int shelf = 0; shelf < 8; shelf++) {
            int s = shelf;
            shelves.refused("NOTHING at first in " + shelf, Scenes::nobody, x -> x.says(s, 0), Due.NOTHING);
            shelves.refused("NOTHING shown in " + shelf, Scenes.behind(Scenes::dressed, x -> x.show(s, Due.NONE)), x -> x.set(s, 0, 1), Due.NOTHING);
            shelves.refused("a LOOKER in " + shelf, Scenes.behind(Scenes::dressed, x -> x.show(s, 2)), x -> x.set(s, 0, 1), Due.OTHER);
            shelves.refused("a ROW in " + shelf, Scenes.behind(Scenes::dressed, x -> x.row(s, 2, 2)), x -> x.says(s, 0), Due.OTHER);
        }
    }

    private static void stuckAndFull() {
        Sentence stuck = Sentence.of(27, "-5 STUCK: it can't be as things stand.");
        stuck.refused("a THING that isn't there", Scenes::dressed, x -> x.odds(8), Due.STUCK);
        stuck.is("it can be, when it is there", Due.window("........1").odds(8), 1000000);
        Sentence full = Sentence.of(10, "-6 FULL.");
        full.refused("LOOKERS", Scenes::eight, x -> x.looker(0, 0, 0), Due.FULL);
        full.refused("THE TAPE", Scenes::fullTape, x -> x.feed(0), Due.FULL);
        SeenInOrderOfAge x = Scenes.fullTape();
        x.wipe();
        full.is("THE TAPE no more", x.feed(0), 1);
        SeenInOrderOfAge y = Scenes.bare();
        y.image();
        for (int i = 0; i < 8; i++) {
            y.looker(0, 0, 0);
        }
        full.is("LOOKERS", y.looker(0, 0, 0), Due.FULL);
        y.back();
        full.is("LOOKERS no more", y.looker(0, 0, 0), 0);
    }

    private static void set() {
        Sentence s = Sentence.of(3, "the first that fits as each line has them): ");
        s.refused("no SHELF, no i", RefusalsTest::shelves, x -> x.set(8, 40, 0), Due.BAD);
        s.refused("a LOOKER", RefusalsTest::shelves, x -> x.set(2, 0, 0), Due.OTHER);
        s.refused("a LOOKER, no i", RefusalsTest::shelves, x -> x.set(2, -1, 0), Due.OTHER);
        s.refused("NOTHING", RefusalsTest::shelves, x -> x.set(3, 0, 0), Due.NOTHING);
        s.refused("NOTHING, no i", RefusalsTest::shelves, x -> x.set(3, Integer.MAX_VALUE, 0), Due.NOTHING);
        s.refused("no i", RefusalsTest::shelves, x -> x.set(0, 4, 0), Due.BAD);
        s.refused("no i of no elements", RefusalsTest::shelves, x -> x.set(6, 0, 0), Due.BAD);
    }

    private static void copyOfShelves() {
        Sentence s = Sentence.of(4, "BAD SHELVES; OTHER (also ROWS of two SORTS OF THEIR OWN, if both hold something); NOTHING; BAD the others.");
        int[] p = {8, 8, 8, -1, 2, 3, 0, -1};
        int[] q = {0, 2, 3, -1, 8, 8, -1, 8};
        for (int i = 0; i < p.length; i++) {
            int from = p[i];
            int to = q[i];
            s.refused("no SHELF, " + from + " to " + to, RefusalsTest::shelves, x -> x.copy(from, to, 0, 0, 1), Due.BAD);
        }
        int[][] others = {{2, 0}, {0, 2}, {2, 2}, {2, 5}, {2, 3}, {3, 2}, {0, 1}, {1, 0}, {0, 6}, {6, 0}};
        for (int[] pair : others) {
            s.refused("OTHER, " + pair[0] + " to " + pair[1], RefusalsTest::shelves, x -> x.copy(pair[0], pair[1], 0, 0, 1), Due.OTHER);
            s.refused("OTHER, no i, " + pair[0] + " to " + pair[1], RefusalsTest::shelves, x -> x.copy(pair[0], pair[1], -1, 9, 77), Due.OTHER);
        }
        int[][] nothing = {{3, 0}, {0, 3}, {3, 3}, {3, 7}, {1, 7}, {7, 6}};
        for (int[] pair : nothing) {
            s.refused("NOTHING, " + pair[0] + " to " + pair[1], RefusalsTest::shelves, x -> x.copy(pair[0], pair[1], 0, 0, 1), Due.NOTHING);
            s.refused("NOTHING, no n, " + pair[0] + " to " + pair[1], RefusalsTest::shelves, x -> x.copy(pair[0], pair[1], -1, 9, -1), Due.NOTHING);
        }
    }

    private static void copyOfOthers() {
        Sentence s = Sentence.of(4, "BAD the others.");
        int[][] bad = {
            {3, 0, 1}, {0, 3, 1}, {2, 0, 2}, {0, 2, 2}, {0, 0, 4}, {-1, 0, 1}, {0, -1, 1}, {0, 0, -1}, {-1, 0, 0}, {0, -1, 0}, {4, 0, 0}, {0, 4, 0},
            {1, 0, Integer.MAX_VALUE}, {0, 1, Integer.MAX_VALUE}, {Integer.MAX_VALUE, 0, 1}, {0, Integer.MAX_VALUE, 1},
            {Integer.MAX_VALUE, Integer.MAX_VALUE, Integer.MAX_VALUE}, {Integer.MIN_VALUE, 0, 1}, {0, Integer.MIN_VALUE, 1}, {0, 0, Integer.MIN_VALUE},
            {Integer.MIN_VALUE, Integer.MIN_VALUE, Integer.MIN_VALUE}, {3, 3, -3}, {-3, -3, 3},
        };
        for (int[] b : bad) {
            String what = "i " + b[0] + " j " + b[1] + " n " + b[2];
            s.refused(what, RefusalsTest::shelves, x -> x.copy(1, 4, b[0], b[1], b[2]), Due.BAD);
            s.refused(what + " in one SHELF", RefusalsTest::shelves, x -> x.copy(1, 1, b[0], b[1], b[2]), Due.BAD);
        }
        s.refused("one of no elements", RefusalsTest::shelves, x -> x.copy(6, 1, 0, 0, 1), Due.BAD);
        s.refused("one to no elements", RefusalsTest::shelves, x -> x.copy(1, 6, 0, 0, 1), Due.BAD);
        s.asked("none of no elements", RefusalsTest::shelves, x -> x.copy(6, 1, 0, 0, 0), 0);
        s.asked("none to no elements", RefusalsTest::shelves, x -> x.copy(1, 6, 0, 0, 0), 0);
    }

    private static void says() {
        Sentence s = Sentence.of(8, "BAD SHELF, KIND; OTHER (also if he is of no such KIND nor of one under it); NOTHING.");
        s.refused("no SHELF, no KIND", RefusalsTest::shelves, x -> x.says(8, 6), Due.BAD);
        s.refused("a ROW, no KIND", RefusalsTest::shelves, x -> x.says(0, 6), Due.BAD);
        s.refused("NOTHING, no KIND", RefusalsTest::shelves, x -> x.says(3, -1), Due.BAD);
        s.refused("a LOOKER, no KIND", RefusalsTest::shelves, x -> x.says(2, 6), Due.BAD);
        for (int kind = 0; kind < 6; kind++) {
            int k = kind;
            s.refused("a ROW, KIND " + kind, RefusalsTest::shelves, x -> x.says(1, k), Due.OTHER);
            s.refused("NOTHING, KIND " + kind, RefusalsTest::shelves, x -> x.says(3, k), Due.NOTHING);
        }
        boolean[][] isUnder = {
            {true, false, false, false, false, false}, {true, true, false, false, false, false}, {true, false, true, false, false, false},
            {true, true, false, true, false, false}, {true, false, true, false, true, false}, {true, false, false, false, false, true},
        };
        for (int kind = 0; kind < 6; kind++) {
            for (int as = 0; as < 6; as++) {
                int k = kind;
                int a = as;
                Sentence.Scene scene = () -> {
                    SeenInOrderOfAge x = new SeenInOrderOfAge();
                    x.looker(k, 3, 44);
                    x.show(7, 0);
                    return x;
                };
                if (isUnder[kind][as]) {
                    s.asked("KIND " + kind + " as " + as, scene, x -> x.says(7, a), as == 0 ? 44 : 0);
                } else {
                    s.refused("KIND " + kind + " as " + as, scene, x -> x.says(7, a), Due.OTHER);
                }
            }
        }
    }

    private static void badBeforeFull() {
        Sentence s = Sentence.of(10, "A LOOKER: the number. BAD; FULL.");
        s.refused("FULL", Scenes::eight, x -> x.looker(0, 0, 0), Due.FULL);
        s.outside("KIND, though FULL", Scenes::eight, 0, 5, (x, v) -> x.looker(v, 0, 0));
        s.outside("a, though FULL", Scenes::eight, 0, 7, (x, v) -> x.looker(0, v, 0));
        s.outside("AGE, though FULL", Scenes::eight, 0, 99, (x, v) -> x.looker(0, 0, v));
        Sentence f = Sentence.of(13, "its size. BAD; FULL.");
        f.refused("FULL", Scenes::fullTape, x -> x.feed(0), Due.FULL);
        f.outside("byte, though FULL", Scenes::fullTape, 0, 255, (x, v) -> x.feed(v));
    }

    private static void badBeforeStuck() {
        Sentence out = Sentence.of(24, "BAD; STUCK: not so many.");
        out.refused("a set of none", Scenes::dressed, x -> x.setOut(8, 5), Due.BAD);
        out.refused("set -1", Scenes::dressed, x -> x.setOut(-1, 0), Due.BAD);
        out.refused("i -2, none to set out", Scenes::dressed, x -> x.setOut(0, -2), Due.BAD);
        out.refused("none to set out", Scenes::dressed, x -> x.setOut(0, 0), Due.STUCK);
        Sentence odds = Sentence.of(27, "BAD; STUCK: it is empty.");
        odds.refused("empty", Scenes::dressed, x -> x.odds(9), Due.STUCK);
        odds.refused("no PLACE of an empty WINDOW", Scenes::bare, x -> x.odds(12), Due.BAD);
        Sentence rare = Sentence.of(32, "BAD; STUCK: no THINGS.");
        rare.outside("what, no THINGS", Scenes::bare, 0, 1, (x, v) -> x.rare(v));
        rare.refused("no THINGS, fewest", Scenes::bare, x -> x.rare(0), Due.STUCK);
        rare.refused("no THINGS, most", Scenes::bare, x -> x.rare(1), Due.STUCK);
        Sentence first = Sentence.of(33, "BAD; STUCK: nobody.");
        first.outside("what, nobody", Scenes::nobody, 0, 2, (x, v) -> x.first(v));
        for (int what = 0; what < 3; what++) {
            int w = what;
            first.refused("nobody, " + what, Scenes::nobody, x -> x.first(w), Due.STUCK);
        }
    }

    private static void stuck() {
        Sentence s = Sentence.of(24, "NONE: three aren't enough, or there is no room");
        Sentence.Scene full = () -> {
            SeenInOrderOfAge x = Due.window("000000000000");
            x.looker(Due.LOOKER, 4, 10);
            return x;
        };
        s.asked("no room", full, x -> x.setOut(1, Due.NONE), Due.NONE);
        s.refused("the first of NONE", full, x -> x.setOut(1, 0), Due.STUCK);
        s.refused("the fourth of NONE", full, x -> x.setOut(1, 3), Due.STUCK);
        s.asked("nobody needs room", full, x -> x.setOut(0, Due.NONE), 0);
        Sentence back = Sentence.of(51, "STUCK: nothing was.");
        back.refused("nothing was kept", Scenes::bare, x -> x.back(), Due.STUCK);
        SeenInOrderOfAge x = Scenes.dressed();
        back.is("something was", x.back(), 1);
        back.is("and is still kept", x.back(), 1);
    }

    private static void judge() {
        Sentence s = Sentence.of(45, "BAD SHELF, n; OTHER; NOTHING; BAD: fewer elements.");
        s.refused("no SHELF, no n", RefusalsTest::shelves, x -> x.judge(8, 21), Due.BAD);
        s.refused("a LOOKER, no n", RefusalsTest::shelves, x -> x.judge(2, 21), Due.BAD);
        s.refused("a LOOKER, n -1", RefusalsTest::shelves, x -> x.judge(2, -1), Due.BAD);
        s.refused("NOTHING, no n", RefusalsTest::shelves, x -> x.judge(3, 21), Due.BAD);
        s.refused("a LOOKER", RefusalsTest::shelves, x -> x.judge(2, 0), Due.OTHER);
        s.refused("a LOOKER, twenty pairs", RefusalsTest::shelves, x -> x.judge(2, 20), Due.OTHER);
        s.refused("NOTHING", RefusalsTest::shelves, x -> x.judge(3, 0), Due.NOTHING);
        s.refused("NOTHING, twenty pairs", RefusalsTest::shelves, x -> x.judge(3, 20), Due.NOTHING);
        s.refused("fewer elements", RefusalsTest::shelves, x -> x.judge(1, 2), Due.BAD);
        s.refused("no elements", RefusalsTest::shelves, x -> x.judge(6, 1), Due.BAD);
        s.asked("no pairs of no elements", RefusalsTest::shelves, x -> x.judge(6, 0), Due.NONE);
    }

    /** A window with a FAULT leaves the same as a tape that was wiped. */
    private static void window() {
        Sentence s = Sentence.of(15, "-20 less the FAULT (that is refused, too: BAD). THE TAPE is empty then, either way.");
        SeenInOrderOfAge x = Scenes.dressed();
        SeenInOrderOfAge other = Scenes.dressed();
        Scenes.feed(x, ";place 5 5;looker 0 0 0;comes 0 1;likes 0 0;shine 0 0;x");
        s.is("a FAULT", x.window(), -81);
        other.wipe();
        s.is("BAD", x.status(12), other.status(12) + 1);
        for (int what = 13; what < 17; what++) {
            s.is("no other refusal " + what, x.status(what), other.status(what));
        }
        s.same("nothing else is changed", Story.of(x), Story.of(other));
        Sentence full = Sentence.of(15, "what there is no room for: its word");
        SeenInOrderOfAge y = Scenes.eight();
        Scenes.feed(y, "clear 1;looker 0 0 0");
        full.is("a ninth", y.window(), -28);
        full.is("is BAD", y.status(12), 1);
        full.is("is not FULL", y.status(16), 0);
        full.same("nothing is changed", Story.of(y), Story.of(Scenes.eight()));
    }

    private static void neverRefused() {
        Sentence s = Sentence.of(9, "(NONE isn't refused.)");
        SeenInOrderOfAge x = Scenes.bare();
        s.is("place of an empty PLACE", x.place(0, Due.NONE), Due.NONE);
        s.is("sortAt", x.sortAt(0), Due.NONE);
        s.is("who", x.who(1, 1), Due.NONE);
        s.is("who in all", x.who(1, 2), Due.NONE);
        s.is("bestPair", x.bestPair(), Due.NONE);
        s.is("holds", x.holds(0), Due.NONE);
        s.is("status", x.status(9), Due.NONE);
        s.is("the number", x.looker(Due.LOOKER, 0, 0), 0);
        s.is("SHINE", x.lookerOf(0, 5), Due.NONE);
        s.is("tell NONE", x.tell(0, 2, Due.NONE), Due.NONE);
        s.is("away", x.away(0, 0), Due.NONE);
        s.is("away, the set", x.away(0, 1), Due.NONE);
        s.is("oldest", x.oldest(0), Due.NONE);
        s.is("next", x.next(0), Due.NONE);
        s.is("bestPair of one", x.bestPair(), Due.NONE);
        s.is("show NONE", x.show(0, Due.NONE), 1);
        for (int i = 0; i < 12; i++) {
            x.place(i, 1);
        }
        s.is("setOut", x.setOut(1, Due.NONE), Due.NONE);
        x.row(0, 0, 0);
        s.is("judge", x.judge(0, 0), Due.NONE);
        for (int what = 12; what < 17; what++) {
            s.is("no REFUSALS " + what, x.status(what), 0);
        }
    }
}
