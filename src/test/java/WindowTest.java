/** Promises 9 to 17: the window, who looks, and windows read from the tape. */
public final class WindowTest {
    public static void main(String[] args) {
        places();
        lookers();
        likes();
        tells();
        tape();
        reads();
        readsOnTop();
        faults();
        faultsOfRoom();
        allOrNothing();
        lookerOf();
        Due.end();
    }

    private static void places() {
        SeenInOrderOfAge x = new SeenInOrderOfAge();
        Due.is(9, "place 0 7", x.place(0, 7), Due.NONE);
        Due.is(9, "place 11 0", x.place(11, 0), Due.NONE);
        Due.is(9, "place 0 3", x.place(0, 3), 7);
        Due.is(9, "place 11 nothing", x.place(11, Due.NONE), 0);
        Due.is(9, "place 11 nothing again", x.place(11, Due.NONE), Due.NONE);
        Due.is(9, "none is refused", x.status(12), 0);
        Due.is(16, "sortAt 0", x.sortAt(0), 3);
        Due.is(16, "sortAt 11", x.sortAt(11), Due.NONE);
        Due.refused(9, "place 12", x, () -> x.place(12, 0), Due.BAD);
        Due.refused(9, "place -1", x, () -> x.place(-1, 0), Due.BAD);
        Due.refused(9, "sort 8", x, () -> x.place(0, 8), Due.BAD);
        Due.refused(9, "sort -2", x, () -> x.place(0, -2), Due.BAD);
        Due.refused(16, "sortAt 12", x, () -> x.sortAt(12), Due.BAD);
        Due.refused(16, "sortAt -1", x, () -> x.sortAt(-1), Due.BAD);
        Due.same(9, "window", Due.sorts(x), "3...........");
        x.place(3, 3);
        x.place(0, 4);
        Due.is(9, "the other of that sort stays", x.sorts(3, 0), 1);
    }

    private static void lookers() {
        SeenInOrderOfAge x = new SeenInOrderOfAge();
        Due.refused(10, "kind 6", x, () -> x.looker(6, 0, 0), Due.BAD);
        Due.refused(10, "kind -1", x, () -> x.looker(-1, 0, 0), Due.BAD);
        Due.refused(10, "a 8", x, () -> x.looker(0, 8, 0), Due.BAD);
        Due.refused(10, "a -1", x, () -> x.looker(0, -1, 0), Due.BAD);
        Due.refused(10, "age 100", x, () -> x.looker(0, 0, 100), Due.BAD);
        Due.refused(10, "age -1", x, () -> x.looker(0, 0, -1), Due.BAD);
        for (int i = 0; i < 8; i++) {
            Due.is(10, "looker", x.looker(i % 6, i, 99 - i), i);
            Due.is(10, "how many", x.status(0), i + 1);
        }
        Due.refused(10, "a ninth", x, () -> x.looker(0, 0, 0), Due.FULL);
        Due.refused(10, "a ninth that may not be", x, () -> x.looker(0, 0, 100), Due.BAD);
        Due.is(10, "still eight", x.status(0), 8);
        Due.is(10, "kind of 7", x.lookerOf(7, 0), 1);
        Due.is(10, "a of 7", x.lookerOf(7, 1), 7);
        Due.is(10, "age of 7", x.lookerOf(7, 2), 92);
        Due.is(10, "likes of 7", x.lookerOf(7, 3), 0);
        Due.is(10, "comes of 7", x.lookerOf(7, 4), 6);
        Due.is(10, "shine of 7", x.lookerOf(7, 5), Due.NONE);
    }

    private static void likes() {
        SeenInOrderOfAge x = Due.window("3");
        x.looker(0, 5, 1);
        Due.is(11, "likes 3", x.likes(0, 3, true), 0);
        Due.is(11, "likes 3 again", x.likes(0, 3, true), 1);
        Due.is(11, "takes what he likes", x.taken(1, 0), 1);
        Due.is(11, "likes no more", x.likes(0, 3, false), 1);
        Due.is(11, "likes no more again", x.likes(0, 3, false), 0);
        Due.is(11, "takes it no more", x.taken(1, 0), 0);
        Due.is(11, "likes his a", x.likes(0, 5, true), 0);
        Due.is(11, "his a is told", x.lookerOf(0, 3), 32);
        Due.is(11, "likes his a no more", x.likes(0, 5, false), 1);
        x.place(0, 5);
        Due.is(11, "a counts all the same", x.taken(1, 0), 1);
        x.likes(0, 3, true);
        Due.is(11, "likes 0, though he likes 3", x.likes(0, 0, true), 0);
        Due.is(11, "likes 0 no more", x.likes(0, 0, false), 1);
        Due.is(11, "but likes 3", x.lookerOf(0, 3), 8);
        Due.refused(11, "looker 1", x, () -> x.likes(1, 0, true), Due.BAD);
        Due.refused(11, "looker -1", x, () -> x.likes(-1, 0, true), Due.BAD);
        Due.refused(11, "sort 8", x, () -> x.likes(0, 8, true), Due.BAD);
        Due.refused(11, "sort -1", x, () -> x.likes(0, -1, true), Due.BAD);
    }

    private static void tells() {
        SeenInOrderOfAge x = new SeenInOrderOfAge();
        x.looker(0, 0, 40);
        Due.is(12, "comes 0", x.tell(0, 0, 0), 6);
        Due.is(12, "comes 12", x.tell(0, 0, 12), 0);
        Due.is(12, "age 0", x.tell(0, 1, 0), 40);
        Due.is(12, "age 99", x.tell(0, 1, 99), 0);
        Due.is(12, "shine 7", x.tell(0, 2, 7), Due.NONE);
        Due.is(12, "shine none", x.tell(0, 2, Due.NONE), 7);
        Due.is(12, "shine 0", x.tell(0, 2, 0), Due.NONE);
        Due.is(12, "none is refused", x.status(12), 0);
        int[][] bad = {{0, 0, 13}, {0, 0, -1}, {0, 1, 100}, {0, 1, -1}, {0, 2, 8}, {0, 2, -2}, {0, 3, 0}, {0, -1, 0}, {1, 0, 0}, {-1, 0, 0}};
        for (int[] b : bad) {
            Due.refused(12, "tell " + b[0] + " " + b[1] + " " + b[2], x, () -> x.tell(b[0], b[1], b[2]), Due.BAD);
        }
        Due.is(12, "comes", x.lookerOf(0, 4), 12);
        Due.is(12, "age", x.lookerOf(0, 2), 99);
        Due.is(12, "shine", x.lookerOf(0, 5), 0);
    }

    private static void tape() {
        SeenInOrderOfAge x = new SeenInOrderOfAge();
        Due.refused(13, "feed -1", x, () -> x.feed(-1), Due.BAD);
        Due.refused(13, "feed 256", x, () -> x.feed(256), Due.BAD);
        for (int i = 0; i < 250; i++) {
            Due.is(13, "feed", x.feed(i), i + 1);
        }
        Due.refused(13, "feed the 251st", x, () -> x.feed(255), Due.FULL);
        Due.refused(13, "feed a wrong 251st", x, () -> x.feed(256), Due.BAD);
        Due.is(13, "size", x.status(5), 250);
        Due.is(14, "wipe", x.wipe(), 250);
        Due.is(14, "wipe again", x.wipe(), 0);
        Due.is(13, "feed 255", x.feed(255), 1);
    }

    private static void reads() {
        SeenInOrderOfAge x = Due.window("0123");
        String text = "  place 11 7;clear 1 ; looker5 3 09;looker 0 0 0;likes 1 0  ;likes 1 7;comes 0 12;shine 1 7;place 0 6 ";
        Due.is(15, "a window", Due.read(x, text), 9);
        Due.is(15, "the tape is empty", x.status(5), 0);
        Due.same(15, "window", Due.sorts(x), "6.23.......7");
        Due.is(15, "two lookers", x.status(0), 2);
        Due.is(15, "kind", x.lookerOf(0, 0), 5);
        Due.is(15, "a", x.lookerOf(0, 1), 3);
        Due.is(15, "age", x.lookerOf(0, 2), 9);
        Due.is(15, "comes", x.lookerOf(0, 4), 12);
        Due.is(15, "comes at first", x.lookerOf(1, 4), 6);
        Due.is(15, "likes", x.lookerOf(1, 3), 129);
        Due.is(15, "shine", x.lookerOf(1, 5), 7);
        Due.is(15, "no shine", x.lookerOf(0, 5), Due.NONE);
        Due.is(15, "order of those read", x.order(3, 0), 1);
        Due.is(15, "the last place", Due.read(x, "clear 11;place 11 5"), 2);
        Due.is(15, "the last place then", x.place(11, 7), 5);
        Due.is(15, "the shortest", Due.read(x, "clear0"), 1);
        Due.same(15, "cleared", Due.sorts(x), "..23.......7");
    }

    private static void readsOnTop() {
        SeenInOrderOfAge x = Due.window("000000000000");
        Due.looker(x, 1, 2, 3, "4");
        StringBuilder text = new StringBuilder("clear 0");
        while (text.length() < 250 - 8) {
            text.append(";clear 0");
        }
        while (text.length() < 250) {
            text.append(' ');
        }
        Due.is(15, "a full tape", Due.read(x, text.toString()), 31);
        Due.is(15, "what was stays", x.lookerOf(0, 3), 16);
        Due.same(15, "other places stay", Due.sorts(x), ".00000000000");
        Due.is(15, "the next has the next number", Due.read(x, "looker 0 0 99;shine 1 0;comes 0 0"), 3);
        Due.is(15, "shine of the next", x.lookerOf(1, 5), 0);
        Due.is(15, "comes of the first", x.lookerOf(0, 4), 0);
    }

    private static void fault(String text, int fault) {
        SeenInOrderOfAge x = new SeenInOrderOfAge();
        x.looker(0, 0, 0);
        Due.is(15, "'" + text + "'", Due.read(x, text), -20 - fault);
        Due.is(15, "'" + text + "' is refused", x.status(12), 1);
        Due.is(15, "the tape is empty behind '" + text + "'", x.status(5), 0);
    }

    private static void faults() {
        fault("", 0);
        fault("   ", 3);
        fault("p", 0);
        fault("places 0 0", 0);
        fault("placeclear", 0);
        fault(" plac 0 0", 1);
        fault("Place 0 0", 0);
        fault("clear", 5);
        fault("clear  ", 7);
        fault("clear 0;", 8);
        fault("clear 0; ", 9);
        fault("clear 0;;clear 0", 8);
        fault(";", 0);
        fault("0", 0);
        fault("clear 0 0", 8);
        fault("clear 0 clear 0", 8);
        fault("clear 12", 6);
        fault("place 12 0", 6);
        fault("place 99 0", 6);
        fault("clear 000", 6);
        fault("clear 1000000000000000000000", 6);
        fault("clear -1", 6);
        fault("clear ;", 6);
        fault("clear x", 6);
        fault("clear\t0", 5);
        fault("clear 0\n", 7);
        fault("clear 0\u00e9", 7);
        fault("place 01", 8);
        fault("place 0 8", 8);
        fault("place 0 01 ;place 0 8", 20);
        fault("looker 0 0", 10);
        fault("looker 6 0 0", 7);
        fault("looker 0 8 0", 9);
        fault("looker 0 0 100", 11);
        fault("likes 1 0", 6);
        fault("likes 0 8", 8);
        fault("comes 1 0", 6);
        fault("comes 0 13", 8);
        fault("shine 1 0", 6);
        fault("shine 0 8", 8);
        fault("shine 0 -", 8);
        fault("looker 0 0 0;likes 2 0", 19);
    }

    private static void faultsOfRoom() {
        SeenInOrderOfAge x = new SeenInOrderOfAge();
        for (int i = 0; i < 7; i++) {
            x.looker(0, 0, 0);
        }
        Due.is(15, "a ninth", Due.read(x, "looker 0 0 0; looker 9"), -34);
        Due.is(15, "an eighth", Due.read(x, "looker 0 0 0;likes 7 1"), 2);
        Due.is(15, "no room comes first", Due.read(x, " looker"), -21);
        Due.is(15, "eight there are", x.status(0), 8);
    }

    private static void allOrNothing() {
        SeenInOrderOfAge x = Due.window("01");
        Due.looker(x, 0, 3, 4, "");
        int answer = Due.read(x, "place 0 5;clear 1;looker 0 0 0;likes 0 7;comes 0 1;shine 0 2;place 1");
        Due.is(15, "ends too early", answer, -88);
        Due.same(15, "nothing is placed", Due.sorts(x), "01..........");
        Due.is(15, "nobody came", x.status(0), 1);
        Due.is(15, "likes as ever", x.lookerOf(0, 3), 0);
        Due.is(15, "comes as ever", x.lookerOf(0, 4), 6);
        Due.is(15, "no shine as ever", x.lookerOf(0, 5), Due.NONE);
    }

    private static void lookerOf() {
        SeenInOrderOfAge x = Due.window("701");
        Due.looker(x, Due.GREEDY, 7, 21, "160");
        x.tell(0, 0, 4);
        x.evening(1);
        int[] want = {3, 7, 21, 67, 4, 7};
        for (int what = 0; what < 6; what++) {
            Due.is(17, "lookerOf 0 " + what, x.lookerOf(0, what), want[what]);
        }
        for (int sort = 0; sort < 8; sort++) {
            Due.is(17, "has of " + sort, x.lookerOf(0, 10 + sort), sort == 7 ? 1 : 0);
        }
        for (int what : new int[] {-1, 6, 9, 18, Integer.MAX_VALUE}) {
            Due.refused(17, "lookerOf 0 " + what, x, () -> x.lookerOf(0, what), Due.BAD);
        }
        Due.refused(17, "lookerOf 1 0", x, () -> x.lookerOf(1, 0), Due.BAD);
        Due.refused(17, "lookerOf -1 0", x, () -> x.lookerOf(-1, 0), Due.BAD);
    }
}
