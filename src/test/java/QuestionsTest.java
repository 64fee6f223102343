/** Promises 22 to 30 and 38 to 40: what is asked of all sets, of chances, and of what might be otherwise. */
public final class QuestionsTest {
    public static void main(String[] args) {
        away();
        crowd();
        setOut();
        setOutRows();
        setOutRefused();
        who();
        kinds();
        wishes();
        kindsRefused();
        odds();
        likely();
        gladOdds();
        meanLeft();
        exchanged();
        oldest();
        Due.end();
    }

    private static void away() {
        SeenInOrderOfAge x = Due.window("111");
        Due.looker(x, Due.CHILD, 1, 3, "");
        Due.looker(x, Due.LOOKER, 1, 4, "");
        Due.looker(x, Due.LOOKER, 1, 5, "");
        Due.looker(x, Due.GREEDY, 1, 2, "");
        Due.looker(x, Due.LOOKER, 2, 1, "");
        Due.is(22, "the greedy one is glad", x.away(3, 0), 0);
        Due.is(22, "and nobody away", x.away(3, 1), 0);
        Due.is(22, "the child", x.away(0, 0), 1);
        Due.is(22, "without the greedy one", x.away(0, 1), 8);
        Due.is(22, "the last", x.away(2, 0), 2);
        Due.is(22, "the first set of two", x.away(2, 1), 9);
        Due.is(22, "it can't be", x.away(4, 0), Due.NONE);
        Due.is(22, "no set", x.away(4, 1), Due.NONE);
        Due.is(22, "none is refused", x.status(12), 0);
        for (int[] bad : new int[][] {{5, 0}, {-1, 0}, {0, 2}, {0, -1}}) {
            Due.refused(22, "away " + bad[0] + " " + bad[1], x, () -> x.away(bad[0], bad[1]), Due.BAD);
        }
    }

    private static void crowd() {
        SeenInOrderOfAge x = Due.window("1123");
        Due.looker(x, Due.GREEDY, 1, 1, "");
        Due.looker(x, Due.LOOKER, 1, 2, "");
        Due.looker(x, Due.LOOKER, 1, 3, "");
        Due.looker(x, Due.LOOKER, 2, 4, "");
        int[] glad = {0, 1, 2, 3, 2};
        int[] sets = {0, 1, 6, 14, 15};
        for (int k = 0; k < 5; k++) {
            Due.is(23, "crowd of " + k, x.crowd(k, 0), glad[k]);
            Due.is(23, "set of " + k, x.crowd(k, 1), sets[k]);
        }
        for (int[] bad : new int[][] {{5, 0}, {-1, 0}, {0, 2}, {0, -1}}) {
            Due.refused(23, "crowd " + bad[0] + " " + bad[1], x, () -> x.crowd(bad[0], bad[1]), Due.BAD);
        }
        SeenInOrderOfAge none = new SeenInOrderOfAge();
        Due.is(23, "crowd of nobody", none.crowd(0, 0), 0);
        Due.is(23, "set of nobody", none.crowd(0, 1), 0);
    }

    private static void setOut() {
        SeenInOrderOfAge x = Due.window(".5.5.5.5.555");
        Due.looker(x, Due.LOOKER, 4, 10, "");
        Due.looker(x, Due.LOOKER, 2, 20, "");
        Due.looker(x, Due.LOOKER, 5, 5, "");
        Due.looker(x, Due.LOOKER, 4, 30, "");
        Due.looker(x, Due.LOOKER, 7, 30, "");
        Due.is(24, "glad already", x.setOut(4, -1), 0);
        Due.is(24, "nobody", x.setOut(0, -1), 0);
        Due.is(24, "one", x.setOut(1, -1), 1);
        Due.is(24, "of sort", x.setOut(1, 0), 4);
        Due.is(24, "three", x.setOut(15, -1), 3);
        Due.is(24, "first", x.setOut(15, 0), 2);
        Due.is(24, "second", x.setOut(15, 1), 4);
        Due.is(24, "third", x.setOut(15, 2), 4);
        Due.is(24, "three aren't enough", x.setOut(31, -1), Due.NONE);
        for (int place = 0; place < 5; place += 2) {
            x.place(place, 0);
        }
        Due.is(24, "one has room", x.setOut(2, 0), 2);
        Due.is(24, "two have room", x.setOut(3, -1), 2);
        Due.is(24, "no room for three", x.setOut(15, -1), Due.NONE);
        x.place(6, 0);
        x.place(8, 0);
        Due.is(24, "no room at all", x.setOut(2, -1), Due.NONE);
        Due.is(24, "glad without room", x.setOut(4, -1), 0);
        Due.is(24, "none is refused", x.status(12) + x.status(15), 0);
        Due.same(24, "nothing is set out in truth", Due.sorts(x), "050505050555");
    }

    /** The child takes two: his a and what he likes, so the first row is not the first of any two sorts. */
    private static void setOutRows() {
        SeenInOrderOfAge x = Due.window(".0");
        Due.looker(x, Due.CHILD, 3, 1, "1");
        Due.looker(x, Due.OLD, 1, 2, "");
        Due.is(24, "three for the child and the old one", x.setOut(3, -1), 3);
        Due.is(24, "one, ", x.setOut(3, 0), 1);
        Due.is(24, "one more, ", x.setOut(3, 1), 1);
        Due.is(24, "and his a", x.setOut(3, 2), 3);
        x.likes(0, 0, true);
        x.place(1, 7);
        Due.looker(x, Due.LOOKER, 0, 99, "");
        Due.is(24, "of sorts that are an a of theirs", x.setOut(3, 0), 1);
        x.looker(Due.LOOKER, 3, 98);
        x.place(11, 3);
        x.likes(0, 3, true);
        x.tell(0, 1, 99);
        x.tell(3, 1, 0);
        Due.is(24, "of sorts that are an a of who comes", x.setOut(8, -1), 0);
        x.place(11, Due.NONE);
        Due.is(24, "of his own a", x.setOut(8, 0), 3);
        x.likes(0, 3, false);
        x.tell(0, 1, 1);
        x.place(1, 0);
        x.likes(0, 0, false);
        x.likes(0, 1, false);
        Due.is(24, "two, if he likes it not", x.setOut(3, -1), 2);
        Due.is(24, "one", x.setOut(3, 0), 1);
        Due.is(24, "and his a", x.setOut(3, 1), 3);
    }

    private static void setOutRefused() {
        SeenInOrderOfAge x = Due.window("");
        Due.looker(x, Due.LOOKER, 4, 10, "");
        for (int set : new int[] {2, 3, -1}) {
            Due.refused(24, "set " + set, x, () -> x.setOut(set, -1), Due.BAD);
        }
        Due.refused(24, "i -2", x, () -> x.setOut(1, -2), Due.BAD);
        Due.refused(24, "not so many", x, () -> x.setOut(1, 1), Due.STUCK);
        Due.refused(24, "never so many", x, () -> x.setOut(1, 3), Due.STUCK);
        Due.refused(24, "none of none", x, () -> x.setOut(0, 0), Due.STUCK);
        for (int place = 0; place < 12; place++) {
            x.place(place, 0);
        }
        Due.refused(24, "it can't be", x, () -> x.setOut(1, 0), Due.STUCK);
    }

    private static void who() {
        SeenInOrderOfAge x = Due.window("1123");
        Due.looker(x, Due.LOOKER, 1, 1, "");
        Due.looker(x, Due.LOOKER, 1, 2, "");
        Due.looker(x, Due.LOOKER, 2, 3, "");
        Due.looker(x, Due.LOOKER, 0, 3, "");
        int[][] want = {
            {0b1111, 2, 0, 0, 8},
            {0b1110, 4, 1, 0, 11},
            {0b1100, 2, 3, 3, 11},
            {0b1000, 2, 7, 7, 15},
            {0b0000, 0, Due.NONE, Due.NONE, 0},
            {0b10000, 0, Due.NONE, Due.NONE, 0},
        };
        for (int[] w : want) {
            for (int what = 0; what < 4; what++) {
                Due.is(25, "who left " + w[0] + ", " + what, x.who(w[0], what), w[what + 1]);
            }
        }
        Due.is(25, "none is refused", x.status(12), 0);
        for (int[] bad : new int[][] {{4096, 0}, {-1, 0}, {0, 4}, {0, -1}}) {
            Due.refused(25, "who " + bad[0] + " " + bad[1], x, () -> x.who(bad[0], bad[1]), Due.BAD);
        }
    }

    private static void kinds() {
        SeenInOrderOfAge x = Due.window("211200......");
        Due.looker(x, Due.LOOKER, 1, 40, "2");
        Due.looker(x, Due.LOOKER, 2, 30, "");
        int[][] takenThenKinds = {{0b10, 0b100001}, {0b110, 0b001010}, {0b1000, 0b010100}, {0, 0}, {0b100, 0}};
        for (int[] t : takenThenKinds) {
            Due.is(26, "kinds by " + t[0], x.kinds(1, 0, t[0], 0), t[1]);
        }
        Due.is(26, "kinds behind another", x.kinds(3, 0, 0b1000, 0), 1 << Due.OLD);
        Due.is(26, "a giver then", x.kinds(3, 0, 0, 0), 1 << Due.GIVER);
        Due.is(26, "his own kind is not asked", x.lookerOf(0, 0), Due.LOOKER);
    }

    private static void wishes() {
        SeenInOrderOfAge x = Due.window("2112..3.....");
        Due.looker(x, Due.LOOKER, 1, 40, "23");
        Due.looker(x, Due.LOOKER, 1, 30, "");
        Due.is(26, "wishes by place 0", x.kinds(1, 0, 1, 1), 0b11110101);
        Due.is(26, "wishes by place 1", x.kinds(1, 0, 2, 1), 0b00000010);
        Due.is(26, "wishes by place 6", x.kinds(1, 0, 64, 1), 0b00001000);
        Due.is(26, "wishes by place 2 behind another", x.kinds(3, 0, 4, 1), 0b00000010);
        Due.is(26, "wishes by nothing", x.kinds(1, 0, 0, 1), 0);
        x.likes(0, 2, false);
        x.likes(0, 3, false);
        Due.is(26, "his a is not liked, unless told", x.kinds(1, 0, 0, 1), 0b11110001);
        Due.is(26, "his a is what it was", x.lookerOf(0, 1), 1);
    }

    private static void kindsRefused() {
        SeenInOrderOfAge x = new SeenInOrderOfAge();
        x.looker(0, 0, 0);
        x.looker(0, 0, 0);
        int[][] bad = {{4, 0, 0, 0}, {-1, 0, 0, 0}, {2, 0, 0, 0}, {3, 2, 0, 0}, {3, -1, 0, 0}, {3, 0, 4096, 0}, {3, 0, -1, 0}, {3, 0, 0, 2}, {3, 0, 0, -1}};
        for (int[] b : bad) {
            Due.refused(26, "kinds " + b[0] + " " + b[1] + " " + b[2] + " " + b[3], x, () -> x.kinds(b[0], b[1], b[2], b[3]), Due.BAD);
        }
        Due.is(26, "places without a thing may be told", x.kinds(3, 0, 4095, 0), 0);
        x.looker(0, 0, 0);
        x.looker(0, 0, 0);
        Due.refused(26, "3 comes, 0 not", x, () -> x.kinds(8, 0, 0, 0), Due.BAD);
    }

    /** Two lookers who both want sort 1, of which there are two, and one who takes what is last. */
    private static SeenInOrderOfAge chances(int... comes) {
        SeenInOrderOfAge x = Due.window("1.12");
        Due.looker(x, Due.LOOKER, 1, 10, "");
        Due.looker(x, Due.LOOKER, 1, 20, "2");
        Due.looker(x, Due.OLD, 1, 5, "");
        for (int i = 0; i < comes.length; i++) {
            x.tell(i, 0, comes[i]);
        }
        return x;
    }

    private static void odds() {
        SeenInOrderOfAge x = chances(4, 8, 1);
        // place 0 goes, if 0 or 1 comes; place 2, if 2 does or both; place 3, if all three do
        Due.is(27, "place 0", x.odds(0), 222222);
        Due.is(27, "place 2", x.odds(2), 712962);
        Due.is(27, "place 3", x.odds(3), 981481);
        Due.refused(27, "empty", x, () -> x.odds(1), Due.STUCK);
        Due.refused(27, "place 12", x, () -> x.odds(12), Due.BAD);
        Due.refused(27, "place -1", x, () -> x.odds(-1), Due.BAD);
        Due.is(27, "nobody comes", chances(0, 0, 0).odds(0), 1000000);
        Due.is(27, "all come", chances(12, 12, 12).odds(3), 0);
        Due.is(27, "as at first", chances().odds(0), 250000);
        Due.is(27, "no lookers", Due.window("1").odds(0), 1000000);
        SeenInOrderOfAge four = fourByChance();
        for (int i = 0; i < 4; i++) {
            Due.is(27, "of four, " + i, four.odds(i), new int[] {916666, 750000, 416666, 83333}[i]);
        }
    }

    /** Four lookers by different chances, each of whom takes a thing that no other one wants. */
    private static SeenInOrderOfAge fourByChance() {
        SeenInOrderOfAge x = Due.window("0123");
        for (int i = 0; i < 4; i++) {
            x.looker(Due.LOOKER, i, 10);
            x.tell(i, 0, new int[] {1, 3, 7, 11}[i]);
        }
        return x;
    }

    private static void likely() {
        SeenInOrderOfAge x = chances(4, 8, 1);
        Due.is(28, "0", x.likely(0), 1000000);
        Due.is(28, "1", x.likely(1), 972222);
        Due.is(28, "2", x.likely(2), 1000000);
        Due.is(28, "1, whether he comes or not", chances(4, 0, 1).likely(1), 972222);
        Due.is(28, "1, if the others come", chances(12, 0, 12).likely(1), 0);
        Due.is(28, "one alone", chances(12, 0, 0).likely(0), 1000000);
        SeenInOrderOfAge four = fourByChance();
        four.looker(Due.LOOKER, 0, 50);
        Due.is(28, "behind one of four", four.likely(4), 916666);
        Due.is(28, "one of four", four.likely(3), 1000000);
        four.tell(3, 0, 0);
        Due.is(28, "one of four who never comes", four.likely(3), 1000000);
        four.tell(0, 1, 60);
        Due.is(28, "who is elder than one who wants the same", four.likely(0), 500000);
        Due.refused(28, "3", x, () -> x.likely(3), Due.BAD);
        Due.refused(28, "-1", x, () -> x.likely(-1), Due.BAD);
    }

    private static void gladOdds() {
        SeenInOrderOfAge x = chances(4, 8, 1);
        // two or more are glad, if two or more come; three never are
        Due.is(29, "0", x.gladOdds(0), 1000000);
        Due.is(29, "1", x.gladOdds(1), 796296);
        Due.is(29, "2", x.gladOdds(2), 268518);
        Due.is(29, "3", x.gladOdds(3), 0);
        Due.is(29, "8", x.gladOdds(8), 0);
        Due.refused(29, "9", x, () -> x.gladOdds(9), Due.BAD);
        Due.refused(29, "-1", x, () -> x.gladOdds(-1), Due.BAD);
        Due.is(29, "nobody comes", chances(0, 0, 0).gladOdds(1), 0);
        Due.is(29, "all come", chances(12, 12, 12).gladOdds(2), 1000000);
        SeenInOrderOfAge all = Due.window("11111111");
        for (int i = 0; i < 8; i++) {
            Due.looker(all, Due.LOOKER, 1, i, "");
        }
        Due.is(29, "all eight", all.gladOdds(8), 3906);
    }

    private static void meanLeft() {
        Due.is(30, "each by his own", chances(4, 8, 1).meanLeft(), 1916);
        Due.is(30, "nobody comes", chances(0, 0, 0).meanLeft(), 3000);
        Due.is(30, "all come", chances(12, 12, 12).meanLeft(), 0);
        Due.is(30, "no lookers", Due.window("123456701234").meanLeft(), 12000);
        Due.is(30, "no things", new SeenInOrderOfAge().meanLeft(), 0);
    }

    private static void exchanged() {
        SeenInOrderOfAge x = Due.window("12");
        Due.is(39, "nobody", x.bestPair(), Due.NONE);
        Due.looker(x, Due.LOOKER, 1, 30, "");
        Due.is(39, "one", x.bestPair(), Due.NONE);
        Due.looker(x, Due.CHILD, 2, 10, "1");
        Due.is(39, "the only two", x.bestPair(), 1);
        Due.looker(x, Due.LOOKER, 3, 20, "");
        Due.is(38, "0 and 1", x.exchanged(0, 1), 2);
        Due.is(38, "1 and 0", x.exchanged(1, 0), 2);
        Due.is(38, "0 and 2", x.exchanged(0, 2), 1);
        Due.is(38, "2 and 1", x.exchanged(2, 1), 1);
        Due.is(39, "the best pair", x.bestPair(), 1);
        x.tell(0, 1, 20);
        x.tell(2, 1, 30);
        x.place(0, Due.NONE);
        Due.is(39, "all alike, the first pair", x.bestPair(), 1);
        x.place(0, 1);
        x.tell(1, 1, 20);
        x.tell(0, 1, 21);
        x.tell(2, 1, 22);
        Due.is(38, "1 and 2", x.exchanged(1, 2), 2);
        x.tell(0, 1, 20);
        x.tell(1, 1, 19);
        Due.is(38, "2 and 1 again", x.exchanged(2, 1), 2);
        for (int[] bad : new int[][] {{0, 0}, {3, 0}, {0, 3}, {-1, 0}, {0, -1}}) {
            Due.refused(38, "exchanged " + bad[0] + " " + bad[1], x, () -> x.exchanged(bad[0], bad[1]), Due.BAD);
        }
        x.looker(Due.LOOKER, 5, 5);
        Due.is(38, "ages are what they were", x.lookerOf(0, 2) * 10000 + x.lookerOf(1, 2) * 100 + x.lookerOf(2, 2), 201922);
        Due.is(39, "a later pair", laterPair().bestPair(), 13);
    }

    private static SeenInOrderOfAge laterPair() {
        SeenInOrderOfAge x = Due.window("12");
        Due.looker(x, Due.LOOKER, 6, 50, "");
        Due.looker(x, Due.CHILD, 2, 10, "1");
        Due.looker(x, Due.LOOKER, 5, 5, "");
        Due.looker(x, Due.LOOKER, 1, 30, "");
        x.tell(0, 1, 10);
        return x;
    }

    private static void oldest() {
        SeenInOrderOfAge x = Due.window("1123");
        Due.looker(x, Due.LOOKER, 1, 3, "");
        Due.looker(x, Due.LOOKER, 1, 40, "");
        Due.looker(x, Due.LOOKER, 1, 50, "");
        Due.looker(x, Due.LOOKER, 2, 0, "");
        Due.looker(x, Due.LOOKER, 7, 0, "");
        Due.is(40, "0, of the age of 2 by number", x.oldest(0), 50);
        Due.is(40, "1", x.oldest(1), 50);
        Due.is(40, "2, ahead of 1", x.oldest(2), 39);
        Due.is(40, "3", x.oldest(3), 99);
        Due.is(40, "4", x.oldest(4), Due.NONE);
        x.tell(0, 1, 0);
        x.tell(1, 1, 0);
        Due.is(40, "2, at none", x.oldest(2), Due.NONE);
        x.tell(2, 1, 0);
        Due.is(40, "0, of the same age", x.oldest(0), 0);
        Due.is(40, "none is refused", x.status(12), 0);
        Due.refused(40, "5", x, () -> x.oldest(5), Due.BAD);
        Due.refused(40, "-1", x, () -> x.oldest(-1), Due.BAD);
        Due.is(40, "his age is what it was", x.lookerOf(2, 2), 0);
    }
}
