/** The edges of promises 1 to 8, 50 and 51 and of what the document says of SHELVES, ROWS and KINDS. */
public final class ShelfEdgesTest {
    private static final long[] PUT = {
        Long.MIN_VALUE, Long.MIN_VALUE + 1, Integer.MIN_VALUE - 1L, Integer.MIN_VALUE, Integer.MIN_VALUE + 1L, -65537, -65536, -32769, -32768, -32767,
        -257, -256, -255, -129, -128, -127, -2, -1, 0, 1, 2, 126, 127, 128, 255, 256, 32766, 32767, 32768, 65535, 65536,
        Integer.MAX_VALUE, Integer.MAX_VALUE + 1L, 4294967295L, 4294967296L, Long.MAX_VALUE - 1, Long.MAX_VALUE,
    };
    private static final long[] AS_BYTES = {
        0, 1, -1, 0, 1, -1, 0, -1, 0, 1,
        -1, 0, 1, 127, -128, -127, -2, -1, 0, 1, 2, 126, 127, -128, -1, 0, -2, -1, 0, -1, 0,
        -1, 0, -1, 0, -2, -1,
    };
    private static final long[] AS_SHORTS = {
        0, 1, -1, 0, 1, -1, 0, 32767, -32768, -32767,
        -257, -256, -255, -129, -128, -127, -2, -1, 0, 1, 2, 126, 127, 128, 255, 256, 32766, 32767, -32768, -1, 0,
        -1, 0, -1, 0, -2, -1,
    };
    private static final long[] AS_INTS = {
        0, 1, 2147483647, -2147483648, -2147483647, -65537, -65536, -32769, -32768, -32767,
        -257, -256, -255, -129, -128, -127, -2, -1, 0, 1, 2, 126, 127, 128, 255, 256, 32766, 32767, 32768, 65535, 65536,
        2147483647, -2147483648, -1, 0, -2, -1,
    };

    public static void main(String[] args) {
        newObject();
        twoObjects();
        newRow();
        lowestBits();
        booleans();
        elementsApart();
        asTheyWere();
        copiesAll();
        shown();
        hisAge();
        now();
        alone();
        byHisOwnKind();
        kept();
        keptShelves();
        keptAgain();
        Due.end();
    }

    private static void newObject() {
        Sentence s = Sentence.of(1, "An empty WINDOW, no LOOKERS; SHELVES hold NOTHING; THE TAPE is empty.");
        SeenInOrderOfAge x = Scenes.bare();
        s.is("an empty WINDOW", x.places(), 0);
        for (int place = 0; place < 12; place++) {
            s.is("PLACE " + place, x.sortAt(place), Due.NONE);
        }
        for (int shelf = 0; shelf < 8; shelf++) {
            s.is("SHELF " + shelf, x.holds(shelf), Due.NONE);
        }
        int[] status = {0, 0, 0, 0, 0, 0, 1, 0};
        for (int what = 0; what < 8; what++) {
            s.is("status " + what, x.status(what), status[what]);
        }
        s.refused("no LOOKERS", Scenes::bare, y -> y.lookerOf(0, 0), Due.BAD);
        s.is("the only set", x.left(0), 0);
        s.is("nothing to wipe", x.wipe(), 0);
        s.is("nothing to read", x.window(), -20);
        Sentence none = Sentence.of(1, "public static final int NONE = -1;");
        none.is("NONE", SeenInOrderOfAge.NONE, -1);
    }

    private static void twoObjects() {
        Sentence s = Sentence.of(1, "An empty WINDOW, no LOOKERS; SHELVES hold NOTHING; THE TAPE is empty.");
        SeenInOrderOfAge x = Scenes.dressed();
        x.christmases(3);
        s.same("one made behind another that was used", Story.of(new SeenInOrderOfAge()), Story.of(Scenes.bare()));
        s.same("one made ahead of another that was used", storyAheadOfUse(), Story.of(Scenes.bare()));
    }

    private static String storyAheadOfUse() {
        SeenInOrderOfAge x = new SeenInOrderOfAge();
        SeenInOrderOfAge y = Scenes.dressed();
        y.swap();
        y.back();
        return Story.of(x);
    }

    private static void newRow() {
        Sentence s = Sentence.of(2, "0 to 40 elements (0, or not so, at first)");
        for (int sort = 0; sort < 5; sort++) {
            SeenInOrderOfAge x = Scenes.bare();
            x.row(7, sort, 40);
            for (int i = 0; i < 40; i++) {
                s.is("element " + i, x.element(7, i), 0);
                x.set(7, i, -1);
            }
            s.is("a new ROW upon it", x.row(7, sort, 39), 1);
            for (int i = 0; i < 40; i++) {
                s.is("element " + i + " then", x.element(7, i), 0);
            }
            s.is("is none of forty", x.set(7, 39, 1), Due.BAD);
            s.is("a longer one", x.row(7, sort, 40) + x.element(7, 39), 1);
        }
        Sentence holds = Sentence.of(2, "SHELF s holds a new ROW: 1.");
        SeenInOrderOfAge x = Scenes.dressed();
        holds.is("upon a LOOKER", x.row(2, 1, 2), 1);
        holds.is("what it holds", x.holds(2), 1);
        holds.is("the looker is still there", x.lookerOf(1, 2), 70);
        holds.is("of no elements", x.row(2, 4, 0), 1);
        holds.is("what that holds", x.holds(2), 4);
        holds.is("it holds something", x.status(7), 3);
    }

    private static void lowestBits() {
        Sentence s = Sentence.of(3, "what is put in keeps its lowest bits");
        long[][] want = {AS_BYTES, AS_SHORTS, AS_INTS, PUT};
        for (int sort = 0; sort < 4; sort++) {
            SeenInOrderOfAge x = Scenes.bare();
            x.row(0, sort, PUT.length);
            for (int i = 0; i < PUT.length; i++) {
                s.is("put", x.set(0, i, PUT[i]), 1);
                s.is("SORT OF ITS OWN " + sort + " of " + PUT[i], x.element(0, i), want[sort][i]);
            }
        }
    }

    private static void booleans() {
        Sentence s = Sentence.of(3, "(of booleans: whether it is not 0); told they are numbers (1, 0)");
        SeenInOrderOfAge x = Scenes.bare();
        x.row(0, 4, PUT.length);
        for (int i = 0; i < PUT.length; i++) {
            x.set(0, i, PUT[i]);
            s.is("of " + PUT[i], x.element(0, i), PUT[i] == 0 ? 0 : 1);
        }
        s.is("no more so", x.set(0, 0, 0), 1);
        s.is("told", x.element(0, 0), 0);
    }

    private static void elementsApart() {
        Sentence s = Sentence.of(3, "Element i of the ROW in SHELF s becomes v: 1.");
        SeenInOrderOfAge x = Scenes.bare();
        for (int shelf = 0; shelf < 8; shelf++) {
            x.row(shelf, 3, 2);
        }
        for (int shelf = 0; shelf < 8; shelf++) {
            x.set(shelf, 0, shelf + 1);
            x.set(shelf, 1, -shelf - 1);
        }
        for (int shelf = 0; shelf < 8; shelf++) {
            s.is("first of " + shelf, x.element(shelf, 0), shelf + 1);
            s.is("last of " + shelf, x.element(shelf, 1), -shelf - 1);
        }
    }

    private static SeenInOrderOfAge counted(int n) {
        SeenInOrderOfAge x = Scenes.bare();
        x.row(0, 3, n);
        x.row(1, 3, n);
        for (int i = 0; i < n; i++) {
            x.set(0, i, i + 1);
        }
        return x;
    }

    private static void elements(Sentence s, SeenInOrderOfAge x, int shelf, long... want) {
        for (int i = 0; i < want.length; i++) {
            s.is("element " + i + " of " + shelf, x.element(shelf, i), want[i]);
        }
    }

    private static void asTheyWere() {
        Sentence s = Sentence.of(4, "come to places j on of that in q (as they were): n.");
        SeenInOrderOfAge x = counted(5);
        s.is("one behind", x.copy(0, 0, 0, 1, 4), 4);
        elements(s, x, 0, 1, 1, 2, 3, 4);
        x = counted(5);
        s.is("one ahead", x.copy(0, 0, 1, 0, 4), 4);
        elements(s, x, 0, 2, 3, 4, 5, 5);
        x = counted(5);
        s.is("two behind", x.copy(0, 0, 1, 3, 2), 2);
        elements(s, x, 0, 1, 2, 3, 2, 3);
        x = counted(5);
        s.is("upon themselves", x.copy(0, 0, 0, 0, 5), 5);
        elements(s, x, 0, 1, 2, 3, 4, 5);
    }

    private static void copiesAll() {
        Sentence s = Sentence.of(4, "n elements of the ROW in SHELF p from place i on");
        SeenInOrderOfAge x = counted(4);
        s.is("none", x.copy(0, 1, 0, 0, 0), 0);
        elements(s, x, 1, 0, 0, 0, 0);
        s.is("the last to the first", x.copy(0, 1, 3, 0, 1), 1);
        elements(s, x, 1, 4, 0, 0, 0);
        s.is("the first to the last", x.copy(0, 1, 0, 3, 1), 1);
        elements(s, x, 1, 4, 0, 0, 1);
        s.is("all", x.copy(0, 1, 0, 0, 4), 4);
        elements(s, x, 1, 1, 2, 3, 4);
        elements(s, x, 0, 1, 2, 3, 4);
        x.set(1, 0, 99);
        elements(s, x, 0, 1, 2, 3, 4);
        x.row(2, 3, 2);
        s.is("two of four", x.copy(0, 2, 2, 0, 2), 2);
        elements(s, x, 2, 3, 4);
    }

    private static void shown() {
        Sentence s = Sentence.of(7, "SHELF s holds a LOOKER, or NOTHING (looker NONE): 1.");
        SeenInOrderOfAge x = Scenes.eight();
        s.is("what it holds", x.holds(0), 17);
        s.is("one upon another", x.show(0, 0), 1);
        s.is("what it holds then", x.holds(0), 10);
        s.is("one in two", x.show(7, 0), 1);
        s.is("both hold him", x.holds(0) + x.holds(7), 20);
        s.is("upon a ROW", x.row(3, 0, 5) + x.set(3, 0, 9) + x.show(3, 7), 3);
        s.is("no ROW any more", x.element(3, 0), 0);
        s.is("NOTHING of a LOOKER", x.show(3, Due.NONE), 1);
        s.is("holds NOTHING", x.holds(3), Due.NONE);
        s.is("NOTHING of NOTHING", x.show(3, Due.NONE), 1);
        s.is("NOTHING of a ROW", x.row(4, 4, 5) + x.show(4, Due.NONE), 2);
        s.is("holds NOTHING, too", x.holds(4), Due.NONE);
        s.is("how many hold something", x.status(7), 2);
    }

    private static void hisAge() {
        Sentence s = Sentence.of(8, "What the LOOKER in SHELF s, taken for one of a KIND, says: LOOKER his AGE;");
        SeenInOrderOfAge x = Scenes.eight();
        for (int looker = 0; looker < 8; looker++) {
            x.show(looker, looker);
            s.is("of " + looker, x.says(looker, 0), 10 * looker);
        }
        x.tell(7, 1, 99);
        x.tell(3, 1, 0);
        s.is("the greatest", x.says(7, 0), 99);
        s.is("the least", x.says(3, 0), 0);
    }

    private static void now() {
        Sentence s = Sentence.of(8, "CHILD, GREEDY, OLD, GIVER, SHY which PLACES (bits) he would take now, if he alone came");
        SeenInOrderOfAge x = Scenes.bare();
        x.looker(Due.GREEDY, 4, 50);
        x.show(0, 0);
        s.is("nothing is there", x.says(0, Due.GREEDY), 0);
        for (int place = 0; place < 12; place++) {
            x.place(place, 4);
        }
        s.is("all there are", x.says(0, Due.GREEDY), 4095);
        s.is("nothing is changed", x.places(), 4095);
        x.evening(1);
        s.is("what is gone", x.says(0, Due.GREEDY), 0);
        x.place(11, 4);
        s.is("the last", x.says(0, Due.CHILD), 2048);
    }

    private static void alone() {
        Sentence s = Sentence.of(8, "if he alone came");
        SeenInOrderOfAge x = Due.window("44");
        x.looker(Due.GREEDY, 4, 1);
        x.looker(Due.CHILD, 4, 50);
        x.show(0, 1);
        s.is("though another is younger", x.says(0, Due.CHILD), 3);
        s.is("who would leave nothing", x.taken(3, 1), 0);
        x.tell(1, 0, 0);
        s.is("though he never comes", x.says(0, Due.CHILD), 3);
    }

    private static void byHisOwnKind() {
        Sentence s = Sentence.of(8, "by his own KIND");
        SeenInOrderOfAge x = Due.window("33.3.6");
        x.looker(Due.GREEDY, 3, 1);
        x.looker(Due.GIVER, 6, 1);
        x.show(0, 0);
        x.show(1, 1);
        s.is("GREEDY as CHILD", x.says(0, Due.CHILD), 0b1011);
        s.is("GREEDY as GREEDY", x.says(0, Due.GREEDY), 0b1011);
        s.is("GIVER as OLD", x.says(1, Due.OLD), 0);
        s.is("GIVER as GIVER", x.says(1, Due.GIVER), 0);
        x.place(4, 6);
        s.is("GIVER as OLD, of two", x.says(1, Due.OLD), 0b100000);
    }

    private static void kept() {
        Sentence s = Sentence.of(50, "All is kept, but THE TAPE, SHELVES and REFUSALS: 1.");
        s.asked("nothing is changed but what was kept", ShelfEdgesTest::keptAlready, x -> x.image(), 1);
        SeenInOrderOfAge x = Scenes.dressed();
        s.is("kept", x.image(), 1);
        x.place(2, 2);
        x.place(0, Due.NONE);
        x.looker(0, 0, 0);
        x.likes(0, 0, true);
        x.tell(0, 0, 12);
        x.tell(0, 1, 99);
        x.tell(1, 2, Due.NONE);
        x.christmases(2);
        s.is("back", x.back(), 1);
        s.same("WINDOW", Due.sorts(x), "51.02.47..31");
        int[] status = {3, 8, 2, 1, 2, 7, 77, 3};
        for (int what = 0; what < 8; what++) {
            s.is("status " + what, x.status(what), status[what]);
        }
        s.same("all", Story.of(x), Story.of(keptAlready()));
        SeenInOrderOfAge y = Scenes.dressed();
        y.image();
        y.wipe();
        y.feed(1);
        y.show(0, Due.NONE);
        y.set(1, 0, 8);
        y.left(-1);
        y.back();
        s.is("not THE TAPE", y.status(5), 1);
        s.is("not SHELVES", y.holds(0), Due.NONE);
        s.is("not ROWS", y.element(1, 0), 8);
        s.is("not REFUSALS", y.status(12), 2);
    }

    private static SeenInOrderOfAge keptAlready() {
        SeenInOrderOfAge x = Scenes.dressed();
        x.image();
        return x;
    }

    private static void keptShelves() {
        Sentence s = Sentence.of(51, "(SHELVES with LOOKERS hold those of the same numbers, or NOTHING): 1.");
        SeenInOrderOfAge x = Scenes.bare();
        for (int i = 0; i < 4; i++) {
            x.looker(Due.LOOKER, i, 10 + i);
        }
        x.image();
        for (int i = 4; i < 8; i++) {
            x.looker(Due.LOOKER, i, 10 + i);
        }
        x.tell(3, 1, 90);
        for (int i = 0; i < 8; i++) {
            x.show(i, i);
        }
        s.is("back", x.back(), 1);
        for (int i = 0; i < 8; i++) {
            s.is("SHELF " + i, x.holds(i), i < 4 ? 10 + i : Due.NONE);
        }
        s.is("how many hold something", x.status(7), 4);
        s.is("the last who is there, as he was", x.says(3, 0), 13);
        x.looker(Due.LOOKER, 0, 55);
        s.is("another of the next number is in no SHELF", x.holds(4), Due.NONE);
        SeenInOrderOfAge y = Scenes.bare();
        y.image();
        y.looker(0, 0, 0);
        y.show(0, 0);
        y.row(1, 0, 1);
        y.back();
        s.is("nobody was", y.holds(0), Due.NONE);
        s.is("a ROW stays", y.holds(1), 0);
        SeenInOrderOfAge z = Scenes.eight();
        z.image();
        z.back();
        s.is("all are there", z.holds(0), 17);
    }

    private static void keptAgain() {
        Sentence s = Sentence.of(51, "All is again as it was kept");
        SeenInOrderOfAge x = Scenes.bare();
        x.image();
        for (int i = 0; i < 3; i++) {
            x.place(0, 7);
            x.looker(1, 1, 1);
            x.evening(0);
            s.is("back again", x.back(), 1);
            s.is("no THING", x.places(), 0);
            s.is("nobody", x.status(0), 0);
            s.is("no EVENING", x.status(3), 0);
        }
        x.place(5, 5);
        x.image();
        x.place(5, Due.NONE);
        x.back();
        s.is("as it was kept last", x.sortAt(5), 5);
        x.looker(5, 5, 5);
        x.back();
        x.looker(4, 4, 4);
        x.image();
        x.back();
        s.is("what came between is gone", x.lookerOf(0, 0), 4);
    }
}
