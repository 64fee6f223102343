/** Promises 1 to 8: a new object and what the shelves hold. */
public final class ShelvesTest {
    public static void main(String[] args) {
        newObject();
        rows();
        elements();
        lowestBits();
        copies();
        copiesRefused();
        shown();
        says();
        saysRefused();
        Due.end();
    }

    private static void newObject() {
        SeenInOrderOfAge x = new SeenInOrderOfAge();
        Due.same(1, "window", Due.sorts(x), "............");
        for (int what = 0; what < 20; what++) {
            int want = what == 6 ? 1 : what < 8 || what >= 12 && what <= 16 ? 0 : Due.NONE;
            Due.is(1, "status " + what, x.status(what), want);
        }
        for (int s = 0; s < 8; s++) {
            Due.is(1, "holds " + s, x.holds(s), Due.NONE);
        }
        Due.is(1, "places", x.places(), 0);
        Due.is(1, "wipe", x.wipe(), 0);
        Due.refused(1, "back", x, x::back, Due.STUCK);
        Due.is(1, "NONE", SeenInOrderOfAge.NONE, -1);
    }

    private static void rows() {
        SeenInOrderOfAge x = new SeenInOrderOfAge();
        for (int sort = 0; sort < 5; sort++) {
            Due.is(2, "row", x.row(sort + 3, sort, 40), 1);
            Due.is(6, "holds", x.holds(sort + 3), sort);
            Due.is(2, "element 39", x.element(sort + 3, 39), 0);
            Due.is(2, "set 39", x.set(sort + 3, 39, 1), 1);
            Due.is(2, "element 39 then", x.element(sort + 3, 39), 1);
        }
        Due.is(2, "row again", x.row(7, 2, 40), 1);
        Due.is(2, "a new row is empty", x.element(7, 39), 0);
        Due.is(2, "row of none", x.row(0, 0, 0), 1);
        Due.is(6, "holds row of none", x.holds(0), 0);
        Due.refused(2, "row s -1", x, () -> x.row(-1, 0, 1), Due.BAD);
        Due.refused(2, "row s 8", x, () -> x.row(8, 0, 1), Due.BAD);
        Due.refused(2, "row sort -1", x, () -> x.row(7, -1, 1), Due.BAD);
        Due.refused(2, "row sort 5", x, () -> x.row(7, 5, 1), Due.BAD);
        Due.refused(2, "row n -1", x, () -> x.row(7, 0, -1), Due.BAD);
        Due.refused(2, "row n 41", x, () -> x.row(7, 0, 41), Due.BAD);
        Due.refused(2, "row n least", x, () -> x.row(7, 0, Integer.MIN_VALUE), Due.BAD);
        Due.is(2, "refused rows change nothing", x.holds(7), 2);
    }

    private static void elements() {
        SeenInOrderOfAge x = new SeenInOrderOfAge();
        x.looker(0, 0, 0);
        x.row(0, 3, 3);
        x.show(1, 0);
        Due.is(3, "set", x.set(0, 2, 77), 1);
        Due.is(5, "element", x.element(0, 2), 77);
        Due.is(5, "element 3", x.element(0, 3), 0);
        Due.is(5, "element -1", x.element(0, -1), 0);
        Due.is(5, "element of nothing", x.element(2, 0), 0);
        Due.is(5, "element of a looker", x.element(1, 0), 0);
        Due.is(5, "element of shelf 8", x.element(8, 0), 0);
        Due.is(5, "element of shelf -1", x.element(-1, 0), 0);
        Due.is(5, "nothing is refused", x.status(12) + x.status(13) + x.status(14), 0);
        Due.refused(3, "set s 8", x, () -> x.set(8, 0, 1), Due.BAD);
        Due.refused(3, "set s -1", x, () -> x.set(-1, 0, 1), Due.BAD);
        Due.refused(3, "set of a looker", x, () -> x.set(1, 99, 1), Due.OTHER);
        Due.refused(3, "set of nothing", x, () -> x.set(2, 99, 1), Due.NOTHING);
        Due.refused(3, "set i 3", x, () -> x.set(0, 3, 1), Due.BAD);
        Due.refused(3, "set i -1", x, () -> x.set(0, -1, 1), Due.BAD);
    }

    private static void lowestBits() {
        long[] put = {300, -129, 1L << 40, Long.MIN_VALUE, 255, 40000, 3000000000L, 0, -1};
        long[][] want = new long[5][];
        want[0] = new long[] {44, 127, 0, 0, -1, 64, 0, 0, -1};
        want[1] = new long[] {300, -129, 0, 0, 255, -25536, 24064, 0, -1};
        want[2] = new long[] {300, -129, 0, 0, 255, 40000, -1294967296, 0, -1};
        want[3] = put;
        want[4] = new long[] {1, 1, 1, 1, 1, 1, 1, 0, 1};
        for (int sort = 0; sort < 5; sort++) {
            SeenInOrderOfAge x = new SeenInOrderOfAge();
            x.row(0, sort, put.length);
            for (int i = 0; i < put.length; i++) {
                x.set(0, i, put[i]);
                Due.is(3, "sort " + sort + " keeps of " + put[i], x.element(0, i), want[sort][i]);
            }
        }
    }

    private static SeenInOrderOfAge twoRows() {
        SeenInOrderOfAge x = new SeenInOrderOfAge();
        x.row(0, 2, 5);
        x.row(1, 2, 4);
        for (int i = 0; i < 5; i++) {
            x.set(0, i, i + 1);
        }
        return x;
    }

    private static long told(SeenInOrderOfAge x, int s, int n) {
        long told = 0;
        for (int i = 0; i < n; i++) {
            told = 10 * told + x.element(s, i);
        }
        return told;
    }

    private static void copies() {
        SeenInOrderOfAge x = twoRows();
        Due.is(4, "copy", x.copy(0, 1, 2, 1, 3), 3);
        Due.is(4, "copied", told(x, 1, 4), 345);
        Due.is(4, "copied from", told(x, 0, 5), 12345);
        Due.is(4, "copy behind itself", x.copy(0, 0, 0, 1, 4), 4);
        Due.is(4, "as they were", told(x, 0, 5), 11234);
        Due.is(4, "copy ahead of itself", x.copy(0, 0, 1, 0, 4), 4);
        Due.is(4, "as they were, ahead", told(x, 0, 5), 12344);
        Due.is(4, "copy of none", x.copy(0, 1, 5, 4, 0), 0);
    }

    private static void copiesRefused() {
        SeenInOrderOfAge x = twoRows();
        x.looker(0, 0, 0);
        x.show(2, 0);
        x.row(3, 3, 5);
        Due.refused(4, "p 8", x, () -> x.copy(8, 2, 0, 0, 1), Due.BAD);
        Due.refused(4, "q -1", x, () -> x.copy(2, -1, 0, 0, 1), Due.BAD);
        Due.refused(4, "from a looker to nothing", x, () -> x.copy(2, 7, 0, 0, 1), Due.OTHER);
        Due.refused(4, "from nothing to a looker", x, () -> x.copy(7, 2, 0, 0, 1), Due.OTHER);
        Due.refused(4, "from ints to longs", x, () -> x.copy(0, 3, 9, 0, 1), Due.OTHER);
        Due.refused(4, "from nothing to ints", x, () -> x.copy(7, 0, 9, 0, 1), Due.NOTHING);
        Due.refused(4, "from ints to nothing", x, () -> x.copy(0, 7, 9, 0, 1), Due.NOTHING);
        Due.refused(4, "i -1", x, () -> x.copy(0, 1, -1, 0, 1), Due.BAD);
        Due.refused(4, "j -1", x, () -> x.copy(0, 1, 0, -1, 1), Due.BAD);
        Due.refused(4, "n -1", x, () -> x.copy(0, 1, 0, 0, -1), Due.BAD);
        Due.refused(4, "too many from p", x, () -> x.copy(1, 0, 2, 0, 3), Due.BAD);
        Due.refused(4, "too many for q", x, () -> x.copy(0, 1, 0, 2, 3), Due.BAD);
        Due.refused(4, "greatest n", x, () -> x.copy(0, 1, 1, 1, Integer.MAX_VALUE), Due.BAD);
        Due.refused(4, "greatest i", x, () -> x.copy(0, 1, Integer.MAX_VALUE, 0, 1), Due.BAD);
        Due.is(4, "refused copies change nothing", told(x, 1, 4), 0);
    }

    private static void shown() {
        SeenInOrderOfAge x = new SeenInOrderOfAge();
        Due.refused(7, "nobody there", x, () -> x.show(0, 0), Due.BAD);
        x.looker(0, 0, 0);
        x.looker(0, 0, 0);
        x.row(0, 0, 1);
        Due.is(7, "show 1", x.show(0, 1), 1);
        Due.is(6, "holds looker 1", x.holds(0), 11);
        Due.is(7, "show none", x.show(0, Due.NONE), 1);
        Due.is(6, "holds nothing", x.holds(0), Due.NONE);
        Due.is(7, "row over a looker", x.show(7, 0) + x.row(7, 4, 2), 2);
        Due.is(6, "holds booleans", x.holds(7), 4);
        Due.refused(7, "show 2", x, () -> x.show(7, 2), Due.BAD);
        Due.refused(7, "show -2", x, () -> x.show(7, -2), Due.BAD);
        Due.refused(7, "shelf 8", x, () -> x.show(8, Due.NONE), Due.BAD);
        Due.refused(7, "shelf -1", x, () -> x.show(-1, 0), Due.BAD);
        Due.is(6, "holds of shelf 8", x.holds(8), Due.NONE);
        Due.is(6, "holds of shelf -1", x.holds(-1), Due.NONE);
        Due.is(6, "holds is not refused", x.status(12), 5);
    }

    private static void says() {
        SeenInOrderOfAge x = Due.window("211200......");
        for (int kind = 0; kind < 6; kind++) {
            Due.looker(x, kind, 1, 30 + kind, "2");
            x.show(kind, kind);
        }
        long[] takes = {0b10, 0b110, 0b1000, 0b110, 0b1000, 0b10};
        long[][] of = {
            {30, Due.OTHER, Due.OTHER, Due.OTHER, Due.OTHER, Due.OTHER},
            {31, takes[1], Due.OTHER, Due.OTHER, Due.OTHER, Due.OTHER},
            {32, Due.OTHER, takes[2], Due.OTHER, Due.OTHER, Due.OTHER},
            {33, takes[3], Due.OTHER, takes[3], Due.OTHER, Due.OTHER},
            {34, Due.OTHER, takes[4], Due.OTHER, takes[4], Due.OTHER},
            {35, Due.OTHER, Due.OTHER, Due.OTHER, Due.OTHER, takes[5]},
        };
        for (int kind = 0; kind < 6; kind++) {
            for (int as = 0; as < 6; as++) {
                Due.is(8, "kind " + kind + " says as " + as, x.says(kind, as), of[kind][as]);
            }
        }
        x.place(3, Due.NONE);
        Due.is(8, "the giver then", x.says(4, 2), 0b100);
        x.place(2, Due.NONE);
        Due.is(8, "the giver spares the only one", x.says(4, 2), 0);
        Due.is(8, "nothing is changed", x.places(), 0b110011);
    }

    private static void saysRefused() {
        SeenInOrderOfAge x = new SeenInOrderOfAge();
        x.looker(0, 0, 0);
        x.row(1, 0, 1);
        Due.refused(8, "shelf 8", x, () -> x.says(8, 0), Due.BAD);
        Due.refused(8, "shelf -1", x, () -> x.says(-1, 0), Due.BAD);
        Due.refused(8, "kind 6", x, () -> x.says(0, 6), Due.BAD);
        Due.refused(8, "kind -1", x, () -> x.says(1, -1), Due.BAD);
        Due.refused(8, "a row", x, () -> x.says(1, 0), Due.OTHER);
        Due.refused(8, "nothing", x, () -> x.says(0, 0), Due.NOTHING);
    }
}
