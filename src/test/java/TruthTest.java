/** Promises 43, 44 and 46 to 52: swaps, evenings in truth, Christmases, images and what is counted. */
public final class TruthTest {
    public static void main(String[] args) {
        swaps();
        swapsAmongWhoIsLeft();
        swapsByLikes();
        swapInTruth();
        swapsAtTheEdges();
        evening();
        eveningAtMost();
        draws();
        christmases();
        images();
        imagesOfShelves();
        status();
        Due.end();
    }

    /** A looker who brings a shine. */
    private static void brings(SeenInOrderOfAge x, int a, String likes, int shine) {
        int number = Due.looker(x, Due.LOOKER, a, 0, likes);
        x.tell(number, 2, shine);
    }

    private static void gets(SeenInOrderOfAge x, int others, int... want) {
        for (int i = 0; i < want.length; i++) {
            Due.is(43, "next of " + i, x.next(i), want[i]);
        }
        Due.is(44, "swapped", x.swapped(), others);
    }

    private static void swaps() {
        SeenInOrderOfAge x = new SeenInOrderOfAge();
        brings(x, 1, "", 0);
        brings(x, 2, "", 1);
        brings(x, 0, "", 2);
        brings(x, 5, "", 4);
        brings(x, 4, "", 5);
        brings(x, 6, "", 6);
        brings(x, 6, "", Due.NONE);
        gets(x, 5, 1, 2, 0, 5, 4, 6, Due.NONE);
        Due.is(43, "none is refused", x.status(12), 0);
        Due.refused(43, "next of 7", x, () -> x.next(7), Due.BAD);
        Due.refused(43, "next of -1", x, () -> x.next(-1), Due.BAD);
        Due.is(43, "nothing is changed", x.lookerOf(0, 5), 0);
    }

    private static void swapsAmongWhoIsLeft() {
        SeenInOrderOfAge x = new SeenInOrderOfAge();
        brings(x, 1, "", 0);
        brings(x, 0, "", 1);
        brings(x, 0, "", 3);
        brings(x, 0, "3", 4);
        brings(x, 1, "4", 3);
        // 0 and 1 go out first; then 2, who likes nothing that is left, by himself; then 3 and 4
        gets(x, 4, 1, 0, 3, 3, 4);
        x.likes(2, 4, true);
        // 3 wishes for 2's, the first who brings a 3
        gets(x, 4, 1, 0, 4, 3, 3);
        x.tell(0, 2, Due.NONE);
        Due.is(44, "swapped, if 0 brings nothing", x.swapped(), 2);
        SeenInOrderOfAge first = new SeenInOrderOfAge();
        brings(first, 3, "", 2);
        brings(first, 2, "", 3);
        brings(first, 3, "", 3);
        brings(first, 2, "", 2);
        // 2 wishes for 1's, the first who brings a 3; when 1 is out, 2 is himself the first
        gets(first, 2, 3, 2, 3, 2);
    }

    private static void swapsByLikes() {
        SeenInOrderOfAge x = new SeenInOrderOfAge();
        brings(x, 7, "543", 2);
        brings(x, 2, "", 5);
        brings(x, 2, "", 4);
        brings(x, 2, "", 4);
        gets(x, 2, 4, 5, 2, 4);
        x.tell(2, 2, 6);
        gets(x, 2, 4, 5, 6, 2);
        x.tell(3, 2, 7);
        gets(x, 2, 7, 5, 6, 2);
        x.tell(3, 2, Due.NONE);
        gets(x, 2, 5, 2, 6, Due.NONE);
    }

    private static void swapInTruth() {
        SeenInOrderOfAge x = new SeenInOrderOfAge();
        brings(x, 1, "", 0);
        brings(x, 0, "", 1);
        brings(x, 5, "", 5);
        brings(x, 5, "", Due.NONE);
        for (int i = 0; i < 2; i++) {
            x.place(0, 5);
            x.evening(4);
        }
        Due.is(47, "swap", x.swap(), 2);
        Due.is(47, "0 shines", x.lookerOf(0, 5), 1);
        Due.is(47, "1 shines", x.lookerOf(1, 5), 0);
        Due.is(47, "2 shines", x.lookerOf(2, 5), 5);
        Due.is(47, "3 shines not", x.lookerOf(3, 5), Due.NONE);
        Due.is(47, "0 has one more", x.lookerOf(0, 11), 1);
        Due.is(47, "0 had none to be less", x.lookerOf(0, 10), 0);
        Due.is(47, "2 has as many", x.lookerOf(2, 15), 2);
        Due.is(47, "3 has nothing", x.lookerOf(3, 15), 0);
        Due.is(47, "swap again", x.swap(), 0);
        Due.is(47, "0 has as many", x.lookerOf(0, 11), 1);
        x.tell(0, 2, 0);
        x.tell(1, 2, 1);
        Due.is(47, "swap a third time", x.swap(), 2);
        Due.is(47, "0 has two", x.lookerOf(0, 11), 2);
        Due.is(47, "1 has none of what he brought", x.lookerOf(1, 11), 0);
        x.tell(0, 2, 1);
        x.tell(0, 1, 0);
        x.tell(1, 2, 2);
        Due.is(47, "nobody brings what is wished for", x.swap(), 0);
        x.likes(0, 2, true);
        x.likes(1, 1, true);
        Due.is(47, "0 keeps his a", x.swap(), 0);
        x.tell(0, 2, 3);
        x.tell(1, 2, 2);
        x.likes(1, 3, true);
        Due.is(47, "they swap likes", x.swap(), 2);
        Due.is(47, "0 has one of 2", x.lookerOf(0, 12), 1);
        Due.is(47, "0 shines of 2", x.lookerOf(0, 5), 2);
    }

    private static void swapsAtTheEdges() {
        SeenInOrderOfAge x = new SeenInOrderOfAge();
        Due.is(47, "nobody", x.swap(), 0);
        brings(x, 1, "", 1);
        Due.is(47, "who keeps his own", x.swap(), 0);
        Due.is(47, "one less of none, then one more", x.lookerOf(0, 11), 1);
        fillUp(x, 0, 1);
        Due.is(47, "full", x.lookerOf(0, 11), 99);
        Due.is(47, "who keeps his own again", x.swap(), 0);
        Due.is(47, "still full", x.lookerOf(0, 11), 99);
        brings(x, 0, "", 1);
        x.tell(0, 2, 0);
        Due.is(47, "who is full gets one more", x.swap(), 2);
        Due.is(47, "99 at most", x.lookerOf(0, 11), 99);
        Due.is(47, "0 at least", x.lookerOf(1, 11), 0);
        Due.is(47, "what the other got", x.lookerOf(1, 10), 1);
    }

    /** A looker takes his a, until he would have more than 99. */
    private static void fillUp(SeenInOrderOfAge x, int looker, int sort) {
        for (int i = 0; i < 100; i++) {
            x.place(0, sort);
            x.evening(1 << looker);
        }
    }

    private static void evening() {
        SeenInOrderOfAge x = Due.window("11024");
        Due.looker(x, Due.OLD, 4, 80, "");
        Due.looker(x, Due.LOOKER, 6, 8, "");
        Due.looker(x, Due.CHILD, 2, 3, "1");
        x.tell(1, 2, 3);
        Due.is(46, "evening of all", x.evening(7), 3);
        Due.same(46, "window", Due.sorts(x), ".10.........");
        Due.is(46, "places", x.places(), 0b110);
        Due.is(46, "the child has a 1", x.lookerOf(2, 11), 1);
        Due.is(46, "and a 2", x.lookerOf(2, 12), 1);
        Due.is(46, "who shines of what he took first", x.lookerOf(2, 5), 2);
        Due.is(46, "the old one has a 4", x.lookerOf(0, 14), 1);
        Due.is(46, "and shines of it", x.lookerOf(0, 5), 4);
        Due.is(46, "who took nothing shines as ever", x.lookerOf(1, 5), 3);
        Due.is(46, "one evening", x.status(3), 1);
        Due.is(46, "evening of nobody", x.evening(0), 0);
        Due.is(46, "two evenings", x.status(3), 2);
        Due.is(46, "the child again", x.evening(4), 1);
        Due.is(46, "who shines of another sort", x.lookerOf(2, 5), 1);
        Due.is(46, "and has two", x.lookerOf(2, 11), 2);
        x.looker(Due.LOOKER, 7, 1);
        Due.read(x, "place 0 5; place 3 7; place 6 5");
        Due.is(46, "the evening of another", x.evening(8), 1);
        Due.is(46, "has only what he took", x.lookerOf(3, 15), 0);
        Due.is(46, "that he has", x.lookerOf(3, 17), 1);
        Due.is(46, "the rest is there", x.places(), 0b1000101);
        Due.refused(46, "set 16", x, () -> x.evening(16), Due.BAD);
        Due.refused(46, "set -1", x, () -> x.evening(-1), Due.BAD);
        Due.is(46, "refused, not held", x.status(3), 4);
    }

    private static void eveningAtMost() {
        SeenInOrderOfAge x = new SeenInOrderOfAge();
        x.looker(Due.GREEDY, 0, 0);
        for (int i = 0; i < 9; i++) {
            for (int place = 0; place < 12; place++) {
                x.place(place, 0);
            }
            Due.is(46, "a full window", x.evening(1), 12);
            Due.is(46, "has", x.lookerOf(0, 10), Math.min(99, 12 * (i + 1)));
        }
        Due.is(52, "all things they have", x.status(2), 99);
    }

    private static void draws() {
        SeenInOrderOfAge x = new SeenInOrderOfAge();
        Due.is(49, "seed 1 at first", x.seed(5), 1);
        Due.is(49, "seed of 5", x.seed(-7), 5);
        Due.is(49, "seed below 0", x.seed(Integer.MIN_VALUE), -7);
        Due.is(49, "the least seed", x.seed(1), Integer.MIN_VALUE);
        Due.is(49, "seed is not refused", x.status(12), 0);
        int seed = 1;
        StringBuilder want = new StringBuilder();
        for (int place = 0; place < 12; place++) {
            seed = seed * 1103515245 + 12345;
            want.append((char) ('0' + (seed >>> 16) % 8));
        }
        Due.is(48, "a Christmas without lookers", x.christmases(1), 0);
        Due.same(48, "drawn", Due.sorts(x), want.toString());
        Due.is(48, "seed", x.status(6), seed);
        Due.is(48, "a Christmas without empty places", x.christmases(40), 0);
        Due.is(48, "no draw", x.status(6), seed);
        Due.is(48, "evenings", x.status(3), 41);
    }

    private static void christmases() {
        SeenInOrderOfAge x = Due.window("0123456701");
        x.looker(Due.GREEDY, 0, 5);
        x.looker(Due.CHILD, 1, 4);
        x.looker(Due.LOOKER, 2, 3);
        x.tell(0, 0, 12);
        x.tell(1, 0, 0);
        x.tell(2, 0, 7);
        x.seed(20);
        int seed = 20;
        int[] draws = new int[40];
        for (int i = 0; i < draws.length; i++) {
            seed = seed * 1103515245 + 12345;
            draws[i] = seed >>> 16;
        }
        boolean comes = draws[2] % 12 < 7;
        Due.is(48, "things", x.christmases(1), comes ? 3 : 2);
        Due.is(48, "the greedy one has both", x.lookerOf(0, 10), 2);
        Due.is(48, "the child never comes", x.lookerOf(1, 11), 0);
        Due.is(48, "place 0 is drawn behind the lookers", x.sortAt(0), draws[3] % 8);
        Due.is(48, "the next empty place is next", x.sortAt(comes ? 2 : 8), draws[4] % 8);
        Due.is(48, "the last place", x.sortAt(11), draws[comes ? 7 : 6] % 8);
        Due.is(48, "all places are full", x.places(), 4095);
        for (int n : new int[] {0, -1, 41, Integer.MIN_VALUE}) {
            Due.refused(48, "christmases " + n, x, () -> x.christmases(n), Due.BAD);
        }
        SeenInOrderOfAge y = new SeenInOrderOfAge();
        y.looker(Due.GREEDY, 3, 3);
        int things = y.christmases(39) + y.christmases(1);
        SeenInOrderOfAge z = new SeenInOrderOfAge();
        z.looker(Due.GREEDY, 3, 3);
        Due.is(48, "forty in all", z.christmases(40), things);
        Due.is(48, "as many as he has", z.lookerOf(0, 13), things);
        never();
    }

    /** Draws of 0 and of 11 are among those of so many Christmases. */
    private static void never() {
        SeenInOrderOfAge x = new SeenInOrderOfAge();
        for (int i = 0; i < 8; i++) {
            x.looker(Due.GREEDY, i, 5);
            x.tell(i, 0, i % 2 == 0 ? 0 : 12);
        }
        int things = x.christmases(40);
        for (int i = 0; i < 8; i++) {
            Due.is(48, i + " comes never or always", x.lookerOf(i, 10 + i) == 0 ? 1 : 0, i % 2 == 0 ? 1 : 0);
        }
        Due.is(48, "all who come have all that was taken", x.status(2), Math.min(things, x.status(2)));
        int kept = x.sorts(0, 0) + x.sorts(2, 0) + x.sorts(4, 0) + x.sorts(6, 0);
        x.christmases(1);
        Due.is(48, "what nobody wants who comes is left", x.sorts(0, 0) + x.sorts(2, 0) + x.sorts(4, 0) + x.sorts(6, 0) >= kept ? 1 : 0, 1);
    }

    private static void images() {
        SeenInOrderOfAge x = Due.window("01");
        Due.refused(51, "nothing was kept", x, x::back, Due.STUCK);
        Due.looker(x, Due.LOOKER, 1, 20, "2");
        Due.looker(x, Due.LOOKER, 0, 30, "");
        x.evening(2);
        x.seed(99);
        x.tell(1, 0, 3);
        Due.is(50, "image", x.image(), 1);
        for (int i = 0; i < 2; i++) {
            Due.read(x, "place 7 7;looker 4 4 44;likes 0 5;comes 1 11;shine 0 6;clear 1");
            x.place(2, 0);
            x.evening(2);
            x.evening(7);
            x.seed(-3);
            x.tell(0, 1, 77);
            x.feed(65);
            x.row(3, 2, 2);
            int bad = x.status(12);
            x.left(-1);
            Due.is(51, "back", x.back(), 1);
            Due.same(51, "window", Due.sorts(x), ".1..........");
            Due.is(51, "places", x.places(), 2);
            Due.is(51, "lookers", x.status(0), 2);
            Due.is(51, "evenings", x.status(3), 1);
            Due.is(51, "seed", x.status(6), 99);
            Due.is(51, "likes", x.lookerOf(0, 3), 4);
            Due.is(51, "comes", x.lookerOf(1, 4), 3);
            Due.is(51, "age", x.lookerOf(0, 2), 20);
            Due.is(51, "order", x.order(3, 0), 0);
            Due.is(51, "shine", x.lookerOf(1, 5), 0);
            Due.is(51, "no shine", x.lookerOf(0, 5), Due.NONE);
            Due.is(51, "has", x.lookerOf(1, 10), 1);
            Due.is(51, "the tape is not kept", x.wipe(), 1);
            Due.is(51, "rows stay", x.holds(3), 2);
            Due.is(51, "refusals stay", x.status(12), bad + 1);
        }
        x.place(11, 3);
        x.image();
        x.place(11, 4);
        x.back();
        Due.is(50, "another image", x.sortAt(11), 3);
    }

    private static void imagesOfShelves() {
        SeenInOrderOfAge x = new SeenInOrderOfAge();
        x.looker(0, 1, 20);
        x.image();
        x.looker(0, 1, 30);
        x.tell(0, 1, 5);
        x.show(0, 0);
        x.show(1, 1);
        x.row(2, 1, 1);
        Due.is(52, "three shelves hold something", x.status(7), 3);
        x.back();
        Due.is(51, "shelf 0 holds looker 0", x.holds(0), 10);
        Due.is(51, "as he was", x.says(0, 0), 20);
        Due.is(51, "shelf 1 holds nothing", x.holds(1), Due.NONE);
        Due.is(51, "shelf 2 holds a row", x.holds(2), 1);
        Due.is(52, "two shelves hold something", x.status(7), 2);
        SeenInOrderOfAge y = new SeenInOrderOfAge();
        y.image();
        y.looker(0, 0, 0);
        y.looker(0, 0, 0);
        y.back();
        Due.is(51, "nobody again", y.status(0), 0);
        y.looker(3, 4, 5);
        y.image();
        y.tell(0, 1, 9);
        y.back();
        Due.is(51, "who came then", y.lookerOf(0, 2), 5);
        newAgain();
    }

    /** Of one who is gone with the image nothing clings to the next of his number. */
    private static void newAgain() {
        SeenInOrderOfAge x = Due.window("4");
        x.image();
        Due.looker(x, Due.CHILD, 4, 9, "12");
        x.tell(0, 0, 1);
        x.evening(1);
        x.back();
        Due.is(51, "the next of his number", x.looker(Due.OLD, 5, 1), 0);
        int[] want = {2, 5, 1, 0, 6, Due.NONE};
        for (int what = 0; what < 6; what++) {
            Due.is(51, "of the next, " + what, x.lookerOf(0, what), want[what]);
        }
        Due.is(51, "the next has nothing", x.lookerOf(0, 14), 0);
    }

    private static void status() {
        SeenInOrderOfAge x = Due.window("0.1");
        x.looker(Due.LOOKER, 0, 0);
        x.looker(Due.LOOKER, 1, 0);
        x.looker(Due.LOOKER, 2, 0);
        x.tell(2, 2, 5);
        x.evening(1);
        x.row(0, 0, 0);
        x.show(7, 2);
        x.feed(1);
        x.feed(2);
        x.seed(7);
        int[] want = {3, 1, 1, 1, 2, 2, 7, 2};
        for (int what = 0; what < 8; what++) {
            Due.is(52, "status " + what, x.status(what), want[what]);
        }
        x.says(0, 0);
        x.says(0, 0);
        x.says(1, 0);
        x.back();
        x.back();
        x.back();
        x.set(8, 0, 0);
        for (int i = 0; i < 5; i++) {
            x.looker(0, 0, 0);
        }
        for (int i = 0; i < 4; i++) {
            x.looker(0, 0, 0);
        }
        int[] refusals = {1, 2, 1, 3, 4};
        for (int what = 12; what < 17; what++) {
            Due.is(52, "status " + what, x.status(what), refusals[what - 12]);
        }
        for (int what : new int[] {-1, 8, 9, 10, 11, 17, Integer.MAX_VALUE, Integer.MIN_VALUE}) {
            Due.is(52, "status " + what, x.status(what), Due.NONE);
        }
        Due.is(52, "another what is not refused", x.status(12), 1);
    }
}
