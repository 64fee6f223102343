/** The scenes before which the bounds are tried. */
final class Scenes {
    private Scenes() {
    }

    /**
     * A scene with something of all that a call might change. The window is "51.02.47..31"; looker 0 is a CHILD
     * of 9 (a 1, likes 2, shine 1, has two of sort 1), 1 an OLD one of 70 (a 2, likes 4, shine 6), 2 a SHY one
     * of 30 (a 3, likes 7, comes 3). Alone or together 0 takes places 1 and 11, 1 takes 6, 2 takes 10. Shelf 0
     * holds four bytes (5 first), shelf 1 three longs (-9 last), shelf 2 looker 1. One evening was, the seed is
     * 77, and the tape's seven bytes clear place 0. What was kept is another scene, and all but FULL has been
     * refused once.
     */
    static SeenInOrderOfAge dressed() {
        SeenInOrderOfAge x = Due.window("51102.47..31");
        Due.looker(x, Due.CHILD, 1, 9, "2");
        Due.looker(x, Due.OLD, 2, 70, "4");
        Due.looker(x, Due.SHY, 3, 30, "7");
        x.evening(0b001);
        x.image();
        x.place(1, 1);
        x.tell(1, 2, 6);
        x.tell(2, 0, 3);
        x.seed(77);
        x.row(0, 0, 4);
        x.set(0, 0, 5);
        x.row(1, 3, 3);
        x.set(1, 2, -9);
        x.show(2, 1);
        feed(x, "clear 0");
        x.left(-1);
        x.set(2, 0, 0);
        x.set(3, 0, 0);
        x.odds(2);
        return x;
    }

    /** Eight lookers of different kinds, one of whom has taken something. */
    static SeenInOrderOfAge eight() {
        SeenInOrderOfAge x = Due.window("0123");
        for (int i = 0; i < 8; i++) {
            x.looker(i % 6, i, 10 * i);
        }
        x.evening(1);
        x.show(0, 7);
        return x;
    }

    /** The tape is full: the word of a window, the blanks behind it, and its numbers. */
    static SeenInOrderOfAge fullTape() {
        SeenInOrderOfAge x = new SeenInOrderOfAge();
        feed(x, "place");
        for (int i = 5; i < 247; i++) {
            x.feed(' ');
        }
        feed(x, "0 5");
        return x;
    }

    /** A window, nobody before it. */
    static SeenInOrderOfAge nobody() {
        return Due.window("01.......3.7");
    }

    /** An empty window, nobody before it. */
    static SeenInOrderOfAge bare() {
        return new SeenInOrderOfAge();
    }

    /** A scene behind one call more. */
    static Sentence.Scene behind(Sentence.Scene scene, Sentence.Call call) {
        return () -> {
            SeenInOrderOfAge x = scene.make();
            call.of(x);
            return x;
        };
    }

    static void feed(SeenInOrderOfAge x, String text) {
        for (int i = 0; i < text.length(); i++) {
            x.feed(text.charAt(i));
        }
    }
}
