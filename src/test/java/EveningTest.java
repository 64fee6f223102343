/** Promises 18 to 21, 31 to 37, 41, 42 and 45: what comes of it, if a set looks through the window. */
public final class EveningTest {
    public static void main(String[] args) {
        lookerTakes();
        childTakes();
        greedyTakes();
        oldTakes();
        giverTakes();
        shyTakes();
        order();
        evening();
        refusedSets();
        twiceAndUnlike();
        sortsAndRare();
        first();
        judgesRight();
        judgesWrong();
        judgeRefused();
        Due.end();
    }

    private static void takes(int kind, int a, String likes, String window, String taken) {
        SeenInOrderOfAge x = Due.window(window);
        Due.looker(x, kind, a, 50, likes);
        int want = 0;
        for (int i = 0; i < taken.length(); i++) {
            want |= 1 << Integer.parseInt(taken.substring(i, i + 1), 16);
        }
        String what = "kind " + kind + " with a " + a + ", likes " + likes + " before " + window;
        Due.is(19, what, x.taken(1, 0), want);
        Due.is(18, what + ", left", x.left(1), x.places() & ~want);
        Due.is(36, what + ", empty", x.empty(1), want == 0 ? 1 : 0);
        Due.same(18, what + " changes nothing", Due.sorts(x), (window + "............").substring(0, 12));
    }

    private static void lookerTakes() {
        takes(Due.LOOKER, 3, "", "12333", "2");
        takes(Due.LOOKER, 3, "1", "12333", "2");
        takes(Due.LOOKER, 3, "21", "0.21", "2");
        takes(Due.LOOKER, 3, "", "0.21", "");
        takes(Due.LOOKER, 3, "012", "", "");
        takes(Due.LOOKER, 7, "0", "...........7", "b");
    }

    private static void childTakes() {
        takes(Due.CHILD, 3, "", "12333", "23");
        takes(Due.CHILD, 3, "2", "123", "21");
        takes(Due.CHILD, 3, "1", "2113", "31");
        takes(Due.CHILD, 3, "21", "0.211", "23");
        takes(Due.CHILD, 3, "1", "0.21", "3");
        takes(Due.CHILD, 3, "", "0003", "3");
        takes(Due.CHILD, 3, "1", "0022", "");
    }

    private static void greedyTakes() {
        takes(Due.GREEDY, 3, "1", "313233333333", "02456789ab");
        takes(Due.GREEDY, 3, "1", "113", "2");
        takes(Due.GREEDY, 3, "1", "1121", "01");
        takes(Due.GREEDY, 3, "1", "0221", "3");
        takes(Due.GREEDY, 3, "", "0221", "");
    }

    private static void oldTakes() {
        takes(Due.OLD, 3, "1", "331.0", "2");
        takes(Due.OLD, 3, "1", "113.0", "2");
        takes(Due.OLD, 3, "", "11300", "2");
        takes(Due.OLD, 3, "", "11200", "");
        takes(Due.OLD, 3, "2", "2", "0");
    }

    private static void giverTakes() {
        takes(Due.GIVER, 3, "1", "331", "");
        takes(Due.GIVER, 3, "1", "3311", "3");
        takes(Due.GIVER, 3, "1", "1133", "3");
        takes(Due.GIVER, 3, "1", "113", "");
        takes(Due.GIVER, 3, "", "3..3.0", "3");
        takes(Due.GIVER, 3, "", "3....0", "");
        takes(Due.GIVER, 3, "", "0", "");
    }

    private static void shyTakes() {
        takes(Due.SHY, 3, "12", "312121", "1");
        takes(Due.SHY, 3, "12", "3121.2", "1");
        takes(Due.SHY, 3, "12", "3122.1", "1");
        takes(Due.SHY, 3, "12", "3122.2", "2");
        takes(Due.SHY, 3, "12", "2133", "2");
        takes(Due.SHY, 3, "12", "0003", "3");
        takes(Due.SHY, 3, "12", "213", "1");
        takes(Due.SHY, 3, "", "000", "");
    }

    private static void order() {
        SeenInOrderOfAge x = new SeenInOrderOfAge();
        int[] ages = {50, 7, 50, 99, 0, 7, 50, 0};
        for (int age : ages) {
            x.looker(0, 0, age);
        }
        int[] want = {4, 7, 1, 5, 0, 2, 6, 3};
        for (int i = 0; i < 8; i++) {
            Due.is(21, "order of all, " + i, x.order(255, i), want[i]);
        }
        Due.is(21, "order of some", x.order(0b01001101, 3), 3);
        Due.is(21, "order of some, first", x.order(0b01001101, 0), 0);
        Due.is(21, "order of one", x.order(0b1000, 0), 3);
        Due.refused(21, "no such i", x, () -> x.order(0b01001101, 4), Due.BAD);
        Due.refused(21, "i -1", x, () -> x.order(255, -1), Due.BAD);
        Due.refused(21, "nobody", x, () -> x.order(0, 0), Due.BAD);
        x.tell(3, 1, 0);
        Due.is(21, "told another age", x.order(255, 0), 3);
        x.tell(3, 1, 50);
        Due.is(21, "told a third age", x.order(255, 6), 3);
    }

    /** The child of 3 takes both of sort 1, the looker of 8 then what he likes, the old one the last. */
    private static SeenInOrderOfAge three() {
        SeenInOrderOfAge x = Due.window("11024");
        Due.looker(x, Due.OLD, 4, 80, "");
        Due.looker(x, Due.LOOKER, 1, 8, "0");
        Due.looker(x, Due.CHILD, 1, 3, "");
        return x;
    }

    private static void evening() {
        SeenInOrderOfAge x = three();
        Due.is(18, "left of all", x.left(7), 0b01000);
        Due.is(18, "left of nobody", x.left(0), 0b11111);
        Due.is(18, "left of 1 and 0", x.left(3), 0b01110);
        Due.is(19, "taken by 2", x.taken(7, 2), 0b00011);
        Due.is(19, "taken by 1", x.taken(7, 1), 0b00100);
        Due.is(19, "taken by 1 without 2", x.taken(3, 1), 0b00001);
        Due.is(19, "taken by 0", x.taken(7, 0), 0b10000);
        Due.is(19, "not in it", x.taken(6, 0), 0);
        Due.is(20, "glad of all", x.glad(7, 0), 2);
        Due.is(35, "glad ones of all", x.gladOnes(7), 0b101);
        Due.is(35, "glad ones of 1 and 0", x.gladOnes(3), 0b011);
        Due.is(20, "empty of all", x.glad(7, 1), 0);
        x.likes(1, 0, false);
        Due.is(20, "empty then", x.glad(7, 1), 1);
        Due.is(36, "who is empty then", x.empty(7), 0b010);
        Due.is(36, "nobody is empty in no set", x.empty(0), 0);
        x.place(2, Due.NONE);
        x.tell(1, 1, 0);
        x.place(0, Due.NONE);
        x.place(1, Due.NONE);
        Due.is(20, "two are empty", x.glad(7, 1), 2);
        Due.is(36, "both of them", x.empty(7), 0b110);
        x.place(0, 1);
        x.place(1, 1);
        x.tell(1, 1, 8);
        Due.is(37, "without 2", x.without(2), 2);
        Due.is(37, "without 0", x.without(0), 1);
        x.place(2, 0);
        Due.looker(x, Due.LOOKER, 0, 1, "");
        Due.is(37, "without 0, and 3 is glad", x.without(0), 2);
        Due.is(37, "without 3", x.without(3), 2);
        Due.is(34, "places", x.places(), 0b11111);
        x.place(11, 0);
        x.place(0, Due.NONE);
        Due.is(34, "places then", x.places(), 0b100000011110);
    }

    private static void refusedSets() {
        for (int set : new int[] {8, 9, -1, Integer.MIN_VALUE, 256}) {
            SeenInOrderOfAge x = three();
            Due.refused(18, "left " + set, x, () -> x.left(set), Due.BAD);
            Due.refused(19, "taken " + set, x, () -> x.taken(set, 0), Due.BAD);
            Due.refused(20, "glad " + set, x, () -> x.glad(set, 0), Due.BAD);
            Due.refused(21, "order " + set, x, () -> x.order(set, 0), Due.BAD);
            Due.refused(35, "gladOnes " + set, x, () -> x.gladOnes(set), Due.BAD);
            Due.refused(36, "empty " + set, x, () -> x.empty(set), Due.BAD);
            Due.refused(41, "twice " + set, x, () -> x.twice(set, 0), Due.BAD);
            Due.refused(41, "twice then " + set, x, () -> x.twice(0, set), Due.BAD);
            Due.refused(42, "unlike " + set, x, () -> x.unlike(set), Due.BAD);
        }
        SeenInOrderOfAge x = three();
        Due.refused(19, "taken by 3", x, () -> x.taken(7, 3), Due.BAD);
        Due.refused(19, "taken by -1", x, () -> x.taken(7, -1), Due.BAD);
        Due.refused(20, "glad what 2", x, () -> x.glad(7, 2), Due.BAD);
        Due.refused(20, "glad what -1", x, () -> x.glad(7, -1), Due.BAD);
        Due.refused(37, "without 3", x, () -> x.without(3), Due.BAD);
        Due.refused(37, "without -1", x, () -> x.without(-1), Due.BAD);
    }

    private static void twiceAndUnlike() {
        SeenInOrderOfAge x = Due.window("1122304");
        Due.looker(x, Due.CHILD, 1, 3, "2");
        Due.looker(x, Due.LOOKER, 2, 8, "");
        Due.is(41, "0, then 0", x.twice(1, 1), 0b1110000);
        Due.is(41, "0, then 1", x.twice(1, 2), 0b1111000 & ~0b100);
        Due.is(41, "nobody, then both", x.twice(0, 3), x.left(3));
        Due.is(41, "both, then both", x.twice(3, 3), 0b1110000);
        Due.is(41, "1, then 0 and 1", x.twice(2, 3), 0b1110000);
        Due.is(34, "nothing is changed", x.places(), 0b1111111);
        Due.is(42, "unlike of nobody", x.unlike(0), 5);
        Due.is(42, "unlike of 0", x.unlike(1), 4);
        Due.is(42, "unlike of both", x.unlike(3), 4);
        x.place(3, 1);
        Due.is(42, "unlike then", x.unlike(3), 4);
        x.place(3, Due.NONE);
        Due.is(42, "unlike at last", x.unlike(3), 3);
    }

    private static void sortsAndRare() {
        SeenInOrderOfAge x = Due.window("5533317");
        Due.looker(x, 0, 3, 0, "13");
        Due.looker(x, 0, 1, 0, "3");
        Due.looker(x, 0, 3, 0, "");
        Due.is(31, "things of 3", x.sorts(3, 0), 3);
        Due.is(31, "things of 0", x.sorts(0, 0), 0);
        Due.is(31, "who like 3", x.sorts(3, 1), 3);
        Due.is(31, "who like 1", x.sorts(1, 1), 2);
        Due.is(31, "who like 7", x.sorts(7, 1), 0);
        Due.is(31, "who like 0", x.sorts(0, 1), 0);
        Due.is(31, "whose a is 3", x.sorts(3, 2), 2);
        Due.is(31, "whose a is 1", x.sorts(1, 2), 1);
        for (int bad : new int[] {-1, 8}) {
            Due.refused(31, "sort " + bad, x, () -> x.sorts(bad, 0), Due.BAD);
        }
        Due.refused(31, "what 3", x, () -> x.sorts(0, 3), Due.BAD);
        Due.refused(31, "what -1", x, () -> x.sorts(0, -1), Due.BAD);
        Due.is(32, "rarest", x.rare(0), 1);
        Due.is(32, "most", x.rare(1), 3);
        x.place(5, 5);
        Due.is(32, "rarest then", x.rare(0), 7);
        Due.is(32, "most then, the least of two", x.rare(1), 3);
        x.place(2, 7);
        Due.is(32, "rarest of two", x.rare(0), 3);
        Due.is(32, "most at last", x.rare(1), 5);
        Due.refused(32, "what 2", x, () -> x.rare(2), Due.BAD);
        Due.refused(32, "what -1", x, () -> x.rare(-1), Due.BAD);
        SeenInOrderOfAge none = new SeenInOrderOfAge();
        Due.refused(32, "no things", none, () -> none.rare(1), Due.STUCK);
        Due.refused(32, "no things, what 2", none, () -> none.rare(2), Due.BAD);
    }

    private static void first() {
        SeenInOrderOfAge x = new SeenInOrderOfAge();
        Due.refused(33, "nobody", x, () -> x.first(2), Due.STUCK);
        Due.refused(33, "nobody, what 3", x, () -> x.first(3), Due.BAD);
        int[] ages = {30, 5, 80, 5, 80};
        for (int age : ages) {
            Due.looker(x, Due.LOOKER, 1, age, "");
        }
        Due.is(33, "youngest", x.first(0), 1);
        Due.is(33, "eldest", x.first(1), 2);
        Due.is(33, "nobody has a thing", x.first(2), 0);
        x.place(0, 1);
        x.evening(16);
        Due.is(33, "4 has one", x.first(2), 4);
        x.place(0, 1);
        x.evening(4);
        Due.is(33, "2 has one, too", x.first(2), 2);
        x.place(0, 1);
        x.evening(16);
        Due.is(33, "4 has two", x.first(2), 4);
        Due.refused(33, "what -1", x, () -> x.first(-1), Due.BAD);
    }

    private static int judge(SeenInOrderOfAge x, int... told) {
        x.row(0, 0, told.length);
        for (int i = 0; i < told.length; i++) {
            x.set(0, i, told[i]);
        }
        return x.judge(0, told.length / 2);
    }

    private static void judgesRight() {
        SeenInOrderOfAge x = three();
        Due.is(45, "all", judge(x, 2, 0, 1, 2, 0, 4), Due.NONE);
        Due.is(45, "1 and 0", judge(x, 1, 0, 0, 4), Due.NONE);
        Due.is(45, "nothing told", judge(x), Due.NONE);
        x.place(4, 1);
        Due.looker(x, Due.LOOKER, 1, 90, "");
        Due.is(45, "all that was taken is gone", judge(x, 2, 0, 1, 4, 0, -1, 3, -1), Due.NONE);
        x.tell(3, 1, 1);
        Due.is(45, "who is not told does not look", judge(x, 0, -1), Due.NONE);
        x.place(4, 4);
        Due.is(45, "nor comes in the order", judge(x, 0, 4), Due.NONE);
        x.tell(3, 1, 99);
        x.likes(1, 0, false);
        Due.is(45, "1 takes nothing", judge(x, 2, 0, 1, -1, 0, 4), Due.NONE);
        x.place(4, 1);
        x.place(0, 2);
        x.place(3, 1);
        Due.is(45, "what a child takes second is gone", judge(x, 2, 1, 1, 4, 0, -1), Due.NONE);
        x.likes(2, 2, true);
        x.place(4, 3);
        x.place(3, 3);
        Due.is(45, "a child takes his a first", judge(x, 2, 1), Due.NONE);
        Due.is(19, "and what is ahead then", x.taken(4, 2), 0b11);
        x.row(1, 3, 6);
        long[] told = {2, 1, 1, -1, 0, -1};
        for (int i = 0; i < 6; i++) {
            x.set(1, i, told[i]);
        }
        Due.is(45, "of longs", x.judge(1, 3), Due.NONE);
        x.set(1, 0, 2 + (1L << 32));
        Due.is(45, "longs are not cut", x.judge(1, 3), 0);
        Due.is(45, "but of none", x.judge(1, 0), Due.NONE);
    }

    private static void judgesWrong() {
        SeenInOrderOfAge x = three();
        Due.is(45, "out of order", judge(x, 1, 0, 2, 0), 0);
        Due.is(45, "another place", judge(x, 2, 1, 1, 2, 0, 4), 0);
        Due.is(45, "another place later", judge(x, 2, 0, 1, 2, 0, 3), 2);
        Due.is(45, "nothing, but he takes", judge(x, 2, 0, 1, -1, 0, 4), 1);
        Due.is(45, "twice told", judge(x, 2, 0, 2, 1, 0, 4), 1);
        Due.is(45, "twice told at the end", judge(x, 2, 0, 0, 4, 0, -1), 2);
        Due.is(45, "nobody of that number", judge(x, 2, 0, 3, -1, 0, 4), 1);
        Due.is(45, "a number below 0", judge(x, -1, 0, 2, 0), 0);
        Due.is(45, "the youngest told last", judge(x, 0, 4, 1, 0, 2, 0), 0);
        x.row(0, 4, 4);
        Due.is(45, "booleans", x.judge(0, 2), 0);
        Due.is(45, "nothing is changed", x.places(), 0b11111);
    }

    private static void judgeRefused() {
        SeenInOrderOfAge x = three();
        x.row(0, 0, 40);
        x.row(1, 0, 3);
        x.show(2, 0);
        Due.is(45, "twenty pairs", x.judge(0, 20), 0);
        Due.refused(45, "n 21", x, () -> x.judge(0, 21), Due.BAD);
        Due.refused(45, "n -1", x, () -> x.judge(2, -1), Due.BAD);
        Due.refused(45, "shelf 8", x, () -> x.judge(8, 0), Due.BAD);
        Due.refused(45, "shelf -1", x, () -> x.judge(-1, 0), Due.BAD);
        Due.refused(45, "a looker", x, () -> x.judge(2, 1), Due.OTHER);
        Due.refused(45, "nothing", x, () -> x.judge(3, 1), Due.NOTHING);
        Due.refused(45, "fewer elements", x, () -> x.judge(1, 2), Due.BAD);
        Due.is(45, "as many elements", x.judge(1, 1), 0);
    }
}
