/** The edges of promises 43 to 49 and 52: swaps, told evenings, evenings in truth, Christmases, what is counted. */
public final class TruthEdgesTest {
    public static void main(String[] args) {
        bringsIt();
        wishForHisA();
        leastSuchSort();
        toHimself();
        firstWhoBrings();
        ringsAtOnce();
        amongWhoIsLeft();
        anotherSort();
        comesNextInOrder();
        eachOnce();
        nobodyOfThatNumber();
        placeHeWouldTake();
        firstPlaceIsTold();
        nothingTold();
        firstPairsOnly();
        rowsOfEachSort();
        addedToHas();
        hasAtMost();
        shineOfTheFirst();
        eveningsCounted();
        swapLessAndMore();
        swapAtTheBounds();
        swapKeepsHisOwn();
        drawWrapping();
        drawBelowComes();
        drawsInTurn();
        christmasesInAll();
        seedBounds();
        status();
        Due.end();
    }

    /** Lookers each of whom brings a SHINE (told behind his a; -1 is NONE). */
    private static SeenInOrderOfAge bringers(int... asAndShines) {
        SeenInOrderOfAge x = Scenes.bare();
        for (int i = 0; i < asAndShines.length; i += 2) {
            int looker = x.looker(Due.LOOKER, asAndShines[i], 0);
            x.tell(looker, 2, asAndShines[i + 1]);
        }
        return x;
    }

    private static void gets(Sentence s, String what, Sentence.Scene scene, int others, int... want) {
        for (int i = 0; i < want.length; i++) {
            int looker = i;
            s.asked(what + ", NEXT of " + i, scene, x -> x.next(looker), want[i]);
        }
        s.asked(what + ", how many", scene, x -> x.swapped(), others);
        SeenInOrderOfAge x = scene.make();
        s.is(what + ", in truth", x.swap(), others);
        for (int i = 0; i < want.length; i++) {
            s.is(what + ", SHINE of " + i, x.lookerOf(i, 5), want[i]);
        }
    }

    private static void bringsIt() {
        Sentence s = Sentence.of(43, "SWAPS: each LOOKER with a SHINE brings it.");
        gets(s, "nobody", Scenes::bare, 0);
        gets(s, "who has none", () -> bringers(3, -1), 0, Due.NONE);
        gets(s, "who has one", () -> bringers(3, 0), 0, 0);
        gets(s, "what he would want is nobody's", () -> bringers(3, 0, 0, -1), 0, 0, Due.NONE);
        gets(s, "all eight", () -> bringers(1, 0, 2, 1, 3, 2, 4, 3, 5, 4, 6, 5, 7, 6, 0, 7), 8, 1, 2, 3, 4, 5, 6, 7, 0);
        gets(s, "one of a ring has none", () -> bringers(1, 0, 2, 1, 0, -1), 0, 0, 1, Due.NONE);
    }

    private static void wishForHisA() {
        Sentence s = Sentence.of(43, "His WISH goes to who brings his a, else to who brings a SORT he LIKES");
        gets(s, "two", () -> bringers(0, 7, 7, 0), 2, 0, 7);
        gets(s, "his a, though he LIKES a lesser", () -> {
            SeenInOrderOfAge x = bringers(5, 1, 1, 0, 1, 5);
            x.likes(0, 0, true);
            return x;
        }, 2, 5, 0, 1);
        gets(s, "what he LIKES", () -> {
            SeenInOrderOfAge x = bringers(5, 1, 1, 0, 1, 2);
            x.likes(0, 0, true);
            return x;
        }, 2, 0, 1, 2);
        gets(s, "his own a, that he brings", () -> bringers(5, 5, 5, 4), 0, 5, 4);
    }

    private static void leastSuchSort() {
        Sentence s = Sentence.of(43, "else to who brings a SORT he LIKES, the least such SORT first");
        gets(s, "7 and 0", () -> {
            SeenInOrderOfAge x = bringers(5, 1, 1, 7, 1, 0);
            x.likes(0, 0, true);
            x.likes(0, 7, true);
            return x;
        }, 2, 0, 7, 1);
        gets(s, "only 7", () -> {
            SeenInOrderOfAge x = bringers(5, 1, 1, 7, 1, 2);
            x.likes(0, 0, true);
            x.likes(0, 7, true);
            return x;
        }, 2, 7, 1, 2);
        gets(s, "his own, that is the least", () -> {
            SeenInOrderOfAge x = bringers(5, 1, 1, 7);
            x.likes(0, 1, true);
            x.likes(0, 7, true);
            return x;
        }, 0, 1, 7);
    }

    private static void toHimself() {
        Sentence s = Sentence.of(43, "else to himself");
        gets(s, "nothing he wants", () -> bringers(3, 0, 3, 1, 3, 2), 0, 0, 1, 2);
        gets(s, "another wishes for his", () -> bringers(3, 0, 0, 1), 0, 0, 1);
    }

    private static void firstWhoBrings() {
        Sentence s = Sentence.of(43, "of several who bring it the first");
        gets(s, "two bring it", () -> bringers(1, 0, 0, 1, 0, 1), 2, 1, 0, 1);
        gets(s, "himself not the first", () -> bringers(0, 1, 1, 0, 1, 1), 2, 0, 1, 1);
        gets(s, "himself the first", () -> bringers(1, 1, 1, 1, 1, 1), 0, 1, 1, 1);
        gets(s, "the last of eight", () -> bringers(7, 0, 0, 2, 0, 2, 0, 2, 0, 2, 0, 2, 0, 2, 0, 7), 2, 7, 2, 2, 2, 2, 2, 2, 0);
    }

    private static void ringsAtOnce() {
        Sentence s = Sentence.of(43, "Rings of WISHES (each wishes for the next one's) are done at once and go out");
        gets(s, "two rings", () -> bringers(1, 0, 0, 1, 3, 2, 2, 3), 4, 1, 0, 3, 2);
        gets(s, "a ring of three", () -> bringers(1, 0, 2, 1, 0, 2), 3, 1, 2, 0);
        gets(s, "two rings across", () -> bringers(2, 0, 3, 1, 0, 2, 1, 3), 4, 2, 3, 0, 1);
        gets(s, "who wishes for one of a ring is in none", () -> bringers(1, 0, 0, 1, 0, 5, 5, 6), 2, 1, 0, 5, 6);
    }

    private static void amongWhoIsLeft() {
        Sentence s = Sentence.of(43, "the others wish again among who is left; on and on");
        gets(s, "the second who brings it", () -> bringers(1, 0, 0, 1, 1, 2, 2, 1), 4, 1, 0, 1, 2);
        gets(s, "a third round", () -> bringers(1, 0, 0, 1, 0, 2, 2, 3, 3, 4), 2, 1, 0, 2, 3, 4);
        gets(s, "to himself at last", () -> bringers(4, 4, 4, 5, 5, 6, 6, 7), 0, 4, 5, 6, 7);
        gets(s, "what he LIKES, when his a is out", () -> {
            SeenInOrderOfAge x = bringers(1, 0, 0, 1, 0, 5, 5, 6);
            x.likes(2, 6, true);
            return x;
        }, 4, 1, 0, 6, 5);
        gets(s, "eight rounds", () -> bringers(0, 0, 0, 1, 1, 2, 2, 3, 3, 4, 4, 5, 5, 6, 6, 7), 0, 0, 1, 2, 3, 4, 5, 6, 7);
    }

    private static void anotherSort() {
        Sentence s = Sentence.of(44, "NEXT of one: the SORT he has then (NONE: he brings none); how many get another SORT than they brought.");
        gets(s, "the same SORT from another", () -> bringers(1, 1, 1, 1), 0, 1, 1);
        gets(s, "two of three", () -> bringers(1, 2, 2, 1, 1, 1), 2, 1, 2, 1);
        gets(s, "none", () -> bringers(1, 1, 2, 2, 3, 3), 0, 1, 2, 3);
        gets(s, "who brings none is not counted", () -> bringers(1, 2, 2, 1, 1, -1), 2, 1, 2, Due.NONE);
    }

    private static long judge(SeenInOrderOfAge x, int sort, int... told) {
        x.row(3, sort, told.length);
        for (int i = 0; i < told.length; i++) {
            x.set(3, i, told[i]);
        }
        return x.judge(3, told.length / 2);
    }

    private static void judged(Sentence s, String what, Sentence.Scene scene, int want, int... told) {
        SeenInOrderOfAge x = scene.make();
        String ahead = Due.sorts(x);
        s.is(what, judge(x, 1, told), want);
        s.is(what + " is not refused", x.status(12), 0);
        s.same(what + " changes nothing", Due.sorts(x), ahead);
    }

    /** 0 is an OLD one of 70, 1 a CHILD of 5, 2 a LOOKER of 30, 3 another of 30; all have a 1, 1 LIKES 2. */
    private static SeenInOrderOfAge four() {
        SeenInOrderOfAge x = Due.window("21111.......");
        Due.looker(x, Due.OLD, 1, 70, "");
        Due.looker(x, Due.CHILD, 1, 5, "2");
        Due.looker(x, Due.LOOKER, 1, 30, "");
        Due.looker(x, Due.LOOKER, 1, 30, "");
        return x;
    }

    private static void comesNextInOrder() {
        Sentence s = Sentence.of(45, "in the order told: WRONG: the first pair (0 on) whose LOOKER doesn't come next in ORDER of all LOOKERS told in it");
        judged(s, "all", TruthEdgesTest::four, Due.NONE, 1, 1, 2, 3, 3, 4, 0, -1);
        judged(s, "the eldest first", TruthEdgesTest::four, 0, 0, 4, 1, 1, 2, 3);
        judged(s, "the second and third turned", TruthEdgesTest::four, 1, 1, 1, 3, 3, 2, 4);
        judged(s, "the eldest ahead of the last", TruthEdgesTest::four, 2, 1, 1, 2, 3, 0, 4, 3, -1);
        judged(s, "who is not told is not awaited", TruthEdgesTest::four, Due.NONE, 3, 1, 0, 4);
        judged(s, "one alone", TruthEdgesTest::four, Due.NONE, 0, 4);
        judged(s, "who is told later is awaited now", TruthEdgesTest::four, 0, 2, 1, 1, 2);
    }

    private static void eachOnce() {
        Sentence s = Sentence.of(45, "of all LOOKERS told in it (each once)");
        judged(s, "told again at once", TruthEdgesTest::four, 1, 1, 1, 1, 3, 2, 4);
        judged(s, "told again at the end", TruthEdgesTest::four, 2, 1, 1, 2, 3, 1, 4);
        judged(s, "told again, nothing taken", TruthEdgesTest::four, 1, 0, 4, 0, -1);
        SeenInOrderOfAge x = Scenes.bare();
        for (int i = 0; i < 8; i++) {
            x.looker(Due.LOOKER, 0, i);
        }
        int[] told = new int[40];
        for (int i = 0; i < 20; i++) {
            told[2 * i] = Math.min(i, 7);
            told[2 * i + 1] = -1;
        }
        s.is("twenty pairs of eight", judge(x, 0, told), 8);
        s.is("eight of them", x.judge(3, 8), Due.NONE);
        s.is("nine of them", x.judge(3, 9), 8);
    }

    private static void nobodyOfThatNumber() {
        Sentence s = Sentence.of(45, "whose LOOKER doesn't come next in ORDER");
        judged(s, "-1", TruthEdgesTest::four, 0, -1, -1, 1, 1);
        judged(s, "the number behind the last", TruthEdgesTest::four, 1, 1, 1, 4, -1);
        judged(s, "32, that is no 0", TruthEdgesTest::four, 1, 1, 1, 32, 4);
        judged(s, "only one who isn't there", TruthEdgesTest::four, 0, 8, -1);
        judged(s, "33 told later, that is no 1", TruthEdgesTest::four, 1, 0, 4, 33, 1);
        judged(s, "-31 told later, that is no 1", TruthEdgesTest::four, 1, 0, 4, -31, 1);
        judged(s, "4 told later, ahead of whom nobody is", TruthEdgesTest::four, 1, 0, 4, 4, -1);
        SeenInOrderOfAge x = Scenes.bare();
        s.is("nobody is there", judge(x, 0, 0, -1), 0);
        long[] far = {Long.MIN_VALUE, 4294967296L, Long.MAX_VALUE, -4294967296L};
        for (long v : far) {
            SeenInOrderOfAge y = four();
            y.row(3, 3, 2);
            y.set(3, 0, v);
            y.set(3, 1, 4);
            s.is("LOOKER " + v, y.judge(3, 1), 0);
        }
        SeenInOrderOfAge z = four();
        z.row(3, 3, 4);
        z.set(3, 1, 4);
        z.set(3, 2, 4294967297L);
        z.set(3, 3, 1);
        s.is("a LOOKER told later whose lowest bits are 1", z.judge(3, 2), 1);
    }

    private static void placeHeWouldTake() {
        Sentence s = Sentence.of(45, "or that tells of a PLACE he wouldn't take");
        judged(s, "the PLACE behind", TruthEdgesTest::four, 0, 1, 2);
        judged(s, "what he LIKES less", TruthEdgesTest::four, 0, 1, 0);
        judged(s, "an empty PLACE", TruthEdgesTest::four, 0, 1, 5);
        judged(s, "no PLACE", TruthEdgesTest::four, 0, 1, 12);
        judged(s, "-2", TruthEdgesTest::four, 0, 1, -2);
        judged(s, "what was taken ahead", TruthEdgesTest::four, 1, 1, 1, 2, 1);
        judged(s, "what a CHILD took second", TruthEdgesTest::four, 1, 1, 1, 2, 2);
        judged(s, "at the last pair", TruthEdgesTest::four, 3, 1, 1, 2, 3, 3, 4, 0, 4);
        long[] far = {Long.MIN_VALUE, 4294967297L, Long.MAX_VALUE, -4294967297L};
        for (long v : far) {
            SeenInOrderOfAge y = four();
            y.row(3, 3, 2);
            y.set(3, 0, 1);
            y.set(3, 1, v);
            s.is("PLACE " + v, y.judge(3, 1), 0);
        }
        judged(s, "the last PLACE", () -> {
            SeenInOrderOfAge x = Due.window("...........4");
            x.looker(Due.LOOKER, 4, 0);
            return x;
        }, Due.NONE, 0, 11);
    }

    private static void firstPlaceIsTold() {
        Sentence s = Sentence.of(45, "(of CHILD, GREEDY: the first PLACE he takes is told); NONE.");
        Sentence.Scene child = () -> {
            SeenInOrderOfAge x = Due.window("11..........");
            x.looker(Due.CHILD, 1, 0);
            return x;
        };
        judged(s, "CHILD, the first", child, Due.NONE, 0, 0);
        judged(s, "CHILD, the second", child, 0, 0, 1);
        Sentence.Scene greedy = () -> {
            SeenInOrderOfAge x = Due.window(".1.1.......1");
            x.looker(Due.GREEDY, 1, 0);
            x.looker(Due.LOOKER, 1, 1);
            return x;
        };
        judged(s, "GREEDY, the first", greedy, Due.NONE, 0, 1);
        judged(s, "GREEDY, the second", greedy, 0, 0, 3);
        judged(s, "GREEDY, the last", greedy, 0, 0, 11);
        judged(s, "GREEDY takes all", greedy, Due.NONE, 0, 1, 1, -1);
        judged(s, "so another finds none", greedy, 1, 0, 1, 1, 3);
        Sentence.Scene asChild = () -> {
            SeenInOrderOfAge x = Due.window("...2......2.");
            Due.looker(x, Due.GREEDY, 1, 0, "2");
            return x;
        };
        judged(s, "GREEDY as a CHILD", asChild, Due.NONE, 0, 3);
        judged(s, "GREEDY as a CHILD, the second", asChild, 0, 0, 10);
    }

    private static void nothingTold() {
        Sentence s = Sentence.of(45, "a LOOKER and a PLACE (or -1: he took nothing)");
        Sentence.Scene scene = () -> {
            SeenInOrderOfAge x = Due.window("5...........");
            x.looker(Due.LOOKER, 1, 0);
            x.looker(Due.LOOKER, 5, 1);
            x.looker(Due.GIVER, 5, 0);
            return x;
        };
        judged(s, "he takes nothing", scene, Due.NONE, 0, -1);
        judged(s, "he takes something", scene, 0, 1, -1);
        judged(s, "a GIVER takes nothing", scene, Due.NONE, 2, -1, 1, 0);
        judged(s, "PLACE 0 is no nothing", scene, 0, 0, 0);
    }

    private static void firstPairsOnly() {
        Sentence s = Sentence.of(45, "by the first n pairs (0 to 20) of the ROW");
        SeenInOrderOfAge x = four();
        judge(x, 0, 1, 1, 2, 3, 0, 9, 0, 9);
        s.is("none", x.judge(3, 0), Due.NONE);
        s.is("one", x.judge(3, 1), Due.NONE);
        s.is("two", x.judge(3, 2), Due.NONE);
        s.is("three", x.judge(3, 3), 2);
        s.is("four", x.judge(3, 4), 2);
        s.is("what stands behind is not told", judge(x, 0, 2, 1, 1, 1), 0);
        s.is("so the first alone is right", x.judge(3, 1), Due.NONE);
    }

    private static void rowsOfEachSort() {
        Sentence s = Sentence.of(45, "A told EVENING: a ROW of pairs");
        for (int sort = 0; sort < 4; sort++) {
            s.is("SORT OF ITS OWN " + sort, judge(four(), sort, 1, 1, 2, 3, 3, 4, 0, -1), Due.NONE);
        }
        s.is("booleans", judge(four(), 4, 1, 1), Due.NONE);
        s.is("booleans know no -1", judge(four(), 4, 1, 1, 0, -1), 1);
        SeenInOrderOfAge x = four();
        x.row(3, 0, 2);
        x.set(3, 0, 257);
        x.set(3, 1, 513);
        s.is("bytes that keep 1 and 1", x.judge(3, 1), Due.NONE);
    }

    private static void addedToHas() {
        Sentence s = Sentence.of(46, "IN TRUTH: an EVENING of a set: what each takes is added to HAS, its PLACE is empty");
        SeenInOrderOfAge x = Due.window("012345670707");
        for (int i = 0; i < 8; i++) {
            x.looker(Due.GREEDY, i, 10);
        }
        s.is("all", x.evening(255), 12);
        s.is("no THING is there", x.places(), 0);
        for (int i = 0; i < 8; i++) {
            for (int sort = 0; sort < 8; sort++) {
                int want = i != sort ? 0 : i == 0 || i == 7 ? 3 : 1;
                s.is("HAS of " + i, x.lookerOf(i, 10 + sort), want);
            }
            s.is("SHINE of " + i, x.lookerOf(i, 5), i);
        }
        s.is("all THINGS", x.status(2), 12);
        s.is("none is left to take", x.evening(255), 0);
        SeenInOrderOfAge y = Due.window("12..........");
        Due.looker(y, Due.CHILD, 1, 10, "2");
        s.is("two SORTS", y.evening(1), 2);
        s.is("one of his a", y.lookerOf(0, 11), 1);
        s.is("one that he LIKES", y.lookerOf(0, 12), 1);
    }

    private static void fillUp(SeenInOrderOfAge x, int looker, int sort, int n) {
        for (int i = 0; i < n; i++) {
            x.place(0, sort);
            x.evening(1 << looker);
        }
    }

    private static void hasAtMost() {
        Sentence s = Sentence.of(46, "HAS (how many THINGS of each SORT; none at first; 99 at most)");
        SeenInOrderOfAge x = Scenes.bare();
        x.looker(Due.LOOKER, 7, 0);
        s.is("none at first", x.lookerOf(0, 17), 0);
        fillUp(x, 0, 7, 98);
        s.is("98", x.lookerOf(0, 17), 98);
        fillUp(x, 0, 7, 1);
        s.is("99", x.lookerOf(0, 17), 99);
        x.place(0, 7);
        s.is("one more is taken", x.evening(1), 1);
        s.is("99 at most", x.lookerOf(0, 17), 99);
        s.is("its PLACE is empty", x.sortAt(0), Due.NONE);
        s.is("all THINGS they HAVE", x.status(2), 99);
        x.likes(0, 6, true);
        x.place(0, 6);
        x.evening(1);
        s.is("another SORT", x.lookerOf(0, 16), 1);
        s.is("all THINGS then", x.status(2), 100);
        SeenInOrderOfAge y = Scenes.bare();
        y.looker(Due.GREEDY, 7, 0);
        for (int i = 0; i < 9; i++) {
            for (int place = 0; place < 12; place++) {
                y.place(place, 7);
            }
            s.is("twelve are taken", y.evening(1), 12);
        }
        s.is("108 are too many", y.lookerOf(0, 17), 99);
    }

    private static void shineOfTheFirst() {
        Sentence s = Sentence.of(46, "SHINE becomes the SORT of the first PLACE he takes");
        int[] shine = {7, 7, 1, 7, 1, 1};
        for (int kind = 0; kind < 6; kind++) {
            SeenInOrderOfAge x = Due.window("0.117..1....");
            Due.looker(x, kind, 7, 10, "1");
            x.tell(0, 2, 5);
            s.is("KIND " + kind + " takes", x.evening(1), kind == Due.CHILD ? 2 : 1);
            s.is("SHINE of KIND " + kind, x.lookerOf(0, 5), shine[kind]);
        }
        SeenInOrderOfAge y = Due.window("0");
        y.looker(Due.LOOKER, 1, 0);
        y.looker(Due.LOOKER, 0, 0);
        y.tell(0, 2, 3);
        s.is("one takes nothing", y.evening(3), 1);
        s.is("so his SHINE stays", y.lookerOf(0, 5), 3);
        s.is("SORT 0 is a SHINE", y.lookerOf(1, 5), 0);
        y.place(0, 0);
        y.evening(1);
        s.is("who doesn't come", y.lookerOf(1, 10), 1);
        SeenInOrderOfAge z = Due.window("0");
        z.looker(Due.LOOKER, 1, 0);
        z.evening(1);
        s.is("who takes nothing has NONE still", z.lookerOf(0, 5), Due.NONE);
    }

    private static void eveningsCounted() {
        Sentence s = Sentence.of(46, "EVENINGS is 1 more.");
        SeenInOrderOfAge x = Scenes.bare();
        s.is("at first", x.status(3), 0);
        s.is("nobody there", x.evening(0), 0);
        s.is("one", x.status(3), 1);
        x.looker(Due.LOOKER, 1, 0);
        s.is("nobody comes", x.evening(0), 0);
        s.is("nothing is taken", x.evening(1), 0);
        s.is("three", x.status(3), 3);
        x.evening(2);
        s.is("refused", x.status(3), 3);
        x.left(1);
        x.swap();
        s.is("what is asked is none", x.status(3), 3);
        x.christmases(40);
        s.is("forty more", x.status(3), 43);
    }

    private static void swapLessAndMore() {
        Sentence s = Sentence.of(47, "SWAPS in truth: each has the SORT he gets for his SHINE, and HAS is 1 less of what he brought, 1 more of what he gets");
        SeenInOrderOfAge x = bringers(1, -1, 0, -1, 5, -1);
        x.likes(0, 0, true);
        x.likes(1, 1, true);
        fillUp(x, 0, 0, 3);
        fillUp(x, 1, 1, 2);
        s.is("two get another", x.swap(), 2);
        s.is("1 less of what 0 brought", x.lookerOf(0, 10), 2);
        s.is("1 more of what 0 gets", x.lookerOf(0, 11), 1);
        s.is("1 less of what 1 brought", x.lookerOf(1, 11), 1);
        s.is("1 more of what 1 gets", x.lookerOf(1, 10), 1);
        s.is("SHINE of 0", x.lookerOf(0, 5), 1);
        s.is("SHINE of 1", x.lookerOf(1, 5), 0);
        s.is("who brings none has none", x.lookerOf(2, 5), Due.NONE);
        s.is("nor anything", x.lookerOf(2, 15), 0);
        s.is("all THINGS", x.status(2), 5);
        s.is("again nobody", x.swap(), 0);
        s.is("EVENINGS are what they were", x.status(3), 5);
    }

    private static void swapAtTheBounds() {
        Sentence s = Sentence.of(47, "(99 at most; 0 at least): how many get another SORT.");
        SeenInOrderOfAge x = bringers(1, -1, 0, -1);
        fillUp(x, 0, 1, 99);
        x.tell(0, 2, 0);
        x.tell(1, 2, 1);
        s.is("who has 99 gets one more", x.swap(), 2);
        s.is("99 at most", x.lookerOf(0, 11), 99);
        s.is("0 at least", x.lookerOf(0, 10), 0);
        s.is("0 at least of the other", x.lookerOf(1, 11), 0);
        s.is("one more", x.lookerOf(1, 10), 1);
        s.is("nobody", Scenes.bare().swap(), 0);
        s.is("of the dressed nobody", Scenes.dressed().swap(), 0);
    }

    /** Who gets what he brought has one less, then one more: the document has them in that order. */
    private static void swapKeepsHisOwn() {
        Sentence s = Sentence.of(47, "HAS is 1 less of what he brought, 1 more of what he gets");
        SeenInOrderOfAge x = bringers(1, 1);
        s.is("nobody gets another", x.swap(), 0);
        s.is("of none", x.lookerOf(0, 11), 1);
        s.is("nobody again", x.swap(), 0);
        s.is("of one", x.lookerOf(0, 11), 1);
        fillUp(x, 0, 1, 98);
        s.is("nobody of 99", x.swap(), 0);
        s.is("of 99", x.lookerOf(0, 11), 99);
    }

    private static void drawWrapping() {
        Sentence s = Sentence.of(48, "A DRAW below n: SEED (1 at first) becomes SEED times 1103515245, and 12345 (an int, wrapping); its upper 16 bits, no sign, modulo n.");
        s.is("1 at first", Scenes.bare().status(6), 1);
        int[] seeds = {0, 1, -1, 2, 20, Integer.MAX_VALUE, Integer.MIN_VALUE, 12345, -987654321};
        for (int seed : seeds) {
            SeenInOrderOfAge x = Due.window("00000000000.");
            x.seed(seed);
            x.christmases(1);
            long product = (seed * 1103515245L + 12345L) % 4294967296L;
            long noSign = product < 0 ? product + 4294967296L : product;
            s.is("SORT by " + seed, x.sortAt(11), noSign / 65536 % 8);
            s.is("SEED behind " + seed, x.status(6), noSign >= 2147483648L ? noSign - 4294967296L : noSign);
        }
        SeenInOrderOfAge y = Scenes.bare();
        y.christmases(1);
        s.same("of SEED 1", Due.sorts(y), drawnSorts(1, 0, 12));
    }

    /** The SORTS that are drawn from a SEED on, behind some other draws. */
    private static String drawnSorts(int seed, int behind, int n) {
        StringBuilder sorts = new StringBuilder();
        long at = seed & 4294967295L;
        for (int i = 0; i < behind + n; i++) {
            at = (at * 1103515245L + 12345L) % 4294967296L;
            if (i >= behind) {
                sorts.append(at / 65536 % 8);
            }
        }
        return sorts.toString();
    }

    private static long draw(int seed, int i, int below) {
        long at = seed & 4294967295L;
        for (int k = 0; k <= i; k++) {
            at = (at * 1103515245L + 12345L) % 4294967296L;
        }
        return at / 65536 % below;
    }

    private static void drawBelowComes() {
        Sentence s = Sentence.of(48, "CHRISTMASES by draws, n: each: by numbers, a LOOKER comes, if a DRAW below 12 is below his COMES");
        for (int seed = 0; seed < 24; seed++) {
            int drawn = (int) draw(seed, 0, 12);
            for (int comes : new int[] {0, drawn - 1, drawn, drawn + 1, 12}) {
                if (comes >= 0 && comes <= 12) {
                    SeenInOrderOfAge x = Due.window("444444444444");
                    x.looker(Due.GREEDY, 4, 0);
                    x.tell(0, 0, comes);
                    x.seed(seed);
                    s.is("drawn " + drawn + ", COMES " + comes, x.christmases(1), drawn < comes ? 12 : 0);
                }
            }
        }
        SeenInOrderOfAge never = Due.window("444444444444");
        never.looker(Due.GREEDY, 4, 0);
        never.tell(0, 0, 0);
        s.is("COMES 0", never.christmases(40), 0);
        s.is("has drawn all the same", never.status(6) == 1 ? 1 : 0, 0);
        SeenInOrderOfAge always = Due.window("444444444444");
        always.looker(Due.GREEDY, 4, 0);
        always.tell(0, 0, 12);
        s.is("COMES 12", always.christmases(1), 12);
    }

    private static void drawsInTurn() {
        Sentence s = Sentence.of(48, "an EVENING of these; then all PLACES that are empty, in turn, get a THING of SORT a DRAW below 8");
        for (int lookers = 0; lookers <= 8; lookers++) {
            SeenInOrderOfAge x = Scenes.bare();
            for (int i = 0; i < lookers; i++) {
                x.looker(i % 6, i, 99 - i);
            }
            s.is("nothing to take", x.christmases(1), 0);
            s.same("behind " + lookers + " draws", Due.sorts(x), drawnSorts(1, lookers, 12));
        }
        SeenInOrderOfAge y = Due.window("3.3.33333.33");
        y.christmases(1);
        String drawn = drawnSorts(1, 0, 3);
        s.same("only the empty ones", Due.sorts(y), "3" + drawn.charAt(0) + "3" + drawn.charAt(1) + "33333" + drawn.charAt(2) + "33");
        int seed = y.status(6);
        y.christmases(40);
        s.is("none is empty: no DRAW", y.status(6), seed);
        SeenInOrderOfAge z = Due.window("555555555555");
        z.looker(Due.LOOKER, 5, 0);
        z.tell(0, 0, 12);
        z.christmases(1);
        s.same("what was taken is empty then", Due.sorts(z), drawnSorts(1, 1, 1) + "55555555555");
    }

    private static SeenInOrderOfAge comers() {
        SeenInOrderOfAge x = Due.window("0123");
        for (int i = 0; i < 8; i++) {
            x.looker(i % 6, i, 50 - i);
            x.tell(i, 0, i + 4);
        }
        return x;
    }

    private static void christmasesInAll() {
        Sentence s = Sentence.of(48, "how many THINGS were taken in all");
        SeenInOrderOfAge once = comers();
        int things = 0;
        for (int i = 0; i < 20; i++) {
            things += once.christmases(2);
        }
        SeenInOrderOfAge forty = comers();
        s.is("forty", forty.christmases(40), things);
        s.is("EVENINGS", forty.status(3), 40);
        s.same("twenty times two", Story.of(forty), Story.of(once));
        SeenInOrderOfAge two = comers();
        SeenInOrderOfAge apart = comers();
        int first = apart.christmases(1);
        s.is("thirty-nine and one", two.christmases(39) + two.christmases(1), things);
        s.is("two", comers().christmases(2), first + apart.christmases(1));
        s.refused("none", TruthEdgesTest::comers, x -> x.christmases(0), Due.BAD);
        s.refused("forty-one", TruthEdgesTest::comers, x -> x.christmases(41), Due.BAD);
    }

    private static void seedBounds() {
        Sentence s = Sentence.of(49, "SEED becomes v: the one ahead.");
        SeenInOrderOfAge x = Scenes.bare();
        int ahead = 1;
        for (int v : new int[] {0, -1, -2, -6, Integer.MIN_VALUE, Integer.MAX_VALUE, 1}) {
            s.is("becomes " + v, x.seed(v), ahead);
            s.is("told " + v, x.status(6), v);
            ahead = v;
        }
        for (int what = 12; what < 17; what++) {
            s.is("nothing is refused", x.status(what), 0);
        }
    }

    private static void status() {
        Sentence s = Sentence.of(52, "LOOKERS (0), PLACES with a THING (1), all THINGS LOOKERS HAVE (2), EVENINGS (3), with SHINE (4), THE TAPE's size (5), SEED (6), SHELVES that hold something (7)");
        SeenInOrderOfAge x = Due.window("012345670123");
        s.is("all PLACES", x.status(1), 12);
        for (int i = 0; i < 8; i++) {
            x.looker(Due.LOOKER, i, 0);
            s.is("LOOKERS", x.status(0), i + 1);
            s.is("with SHINE", x.status(4), i);
            x.tell(i, 2, i == 0 ? 0 : 7);
            x.row(i, 0, 0);
            s.is("SHELVES", x.status(7), i + 1);
            x.feed(0);
            s.is("THE TAPE", x.status(5), i + 1);
        }
        s.is("with SHINE, all", x.status(4), 8);
        x.tell(0, 2, Due.NONE);
        s.is("with SHINE, but one", x.status(4), 7);
        x.show(0, Due.NONE);
        s.is("SHELVES but one", x.status(7), 7);
        x.evening(255);
        s.is("all THINGS they HAVE", x.status(2), 8);
        s.is("what is left", x.status(1), 4);
        s.is("with SHINE again", x.status(4), 8);
        x.window();
        s.is("no TAPE", x.status(5), 0);
    }
}
