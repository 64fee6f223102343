/** Counts the answers that are not the ones that are due, and tells each. */
final class Due {
    static final int NONE = -1, BAD = -2, OTHER = -3, NOTHING = -4, STUCK = -5, FULL = -6;
    static final int LOOKER = 0, CHILD = 1, OLD = 2, GREEDY = 3, GIVER = 4, SHY = 5;

    private static int asked = 0;
    private static int wrong = 0;

    private Due() {
    }

    static void is(int promise, String what, long got, long want) {
        asked++;
        if (got != want) {
            wrong++;
            System.out.println("promise " + promise + ": " + what + " answered " + got + ", due is " + want);
        }
    }

    /** A call is refused with a code, and counted as that one refusal. */
    static void refused(int promise, String what, SeenInOrderOfAge x, java.util.function.LongSupplier call, int code) {
        int[] before = refusals(x);
        is(promise, what, call.getAsLong(), code);
        int[] behind = refusals(x);
        for (int i = 0; i < 5; i++) {
            is(promise, what + ": refusals counted as " + (-2 - i), behind[i], before[i] + (code == -2 - i ? 1 : 0));
        }
    }

    private static int[] refusals(SeenInOrderOfAge x) {
        int[] counts = new int[5];
        for (int i = 0; i < 5; i++) {
            counts[i] = x.status(12 + i);
        }
        return counts;
    }

    /** An object whose places hold the sorts that a text tells, a sign a place; '.' is nothing. */
    static SeenInOrderOfAge window(String sorts) {
        SeenInOrderOfAge x = new SeenInOrderOfAge();
        for (int i = 0; i < sorts.length(); i++) {
            x.place(i, sorts.charAt(i) == '.' ? NONE : sorts.charAt(i) - '0');
        }
        return x;
    }

    /** A looker more, who likes besides his a the sorts that a text tells. */
    static int looker(SeenInOrderOfAge x, int kind, int a, int age, String likes) {
        int number = x.looker(kind, a, age);
        for (int i = 0; i < likes.length(); i++) {
            x.likes(number, likes.charAt(i) - '0', true);
        }
        return number;
    }

    /** What the places hold, told as window takes it. */
    static String sorts(SeenInOrderOfAge x) {
        StringBuilder told = new StringBuilder();
        for (int i = 0; i < 12; i++) {
            told.append(x.sortAt(i) == NONE ? '.' : (char) ('0' + x.sortAt(i)));
        }
        return told.toString();
    }

    static void same(int promise, String what, String got, String want) {
        is(promise, what + ": '" + got + "' for '" + want + "'", got.equals(want) ? 1 : 0, 1);
    }

    /** Feeds a text and reads it. */
    static int read(SeenInOrderOfAge x, String text) {
        for (int i = 0; i < text.length(); i++) {
            x.feed(text.charAt(i));
        }
        return x.window();
    }

    static void end() {
        System.out.println(asked + " answers looked at, " + wrong + " not as due");
        if (wrong != 0) {
            System.exit(1);
        }
    }
}
