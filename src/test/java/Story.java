/** All that an object tells of itself, but how often it refused: two objects with one story are alike. */
final class Story {
    private static final int LAST_ELEMENT = 40;

    private Story() {
    }

    /**
     * Asks an object for all it holds, reads its tape as a window, takes back what was kept, and asks again:
     * behind this the object is of no more use.
     */
    static String of(SeenInOrderOfAge x) {
        StringBuilder told = new StringBuilder();
        shelves(told, x);
        scene(told, x);
        told.append("\ntape ").append(x.status(5)).append(" read ").append(x.window()).append(": ");
        scene(told, x);
        told.append("\nback ").append(x.back()).append(": ");
        scene(told, x);
        for (int s = 0; s < 8; s++) {
            told.append(" holds ").append(x.holds(s));
        }
        return told.toString();
    }

    private static void shelves(StringBuilder told, SeenInOrderOfAge x) {
        for (int s = 0; s < 8; s++) {
            int holds = x.holds(s);
            told.append("shelf ").append(holds).append(':');
            for (int i = 0; i <= LAST_ELEMENT && holds >= 0 && holds <= 4; i++) {
                told.append(' ').append(x.element(s, i));
            }
            told.append('\n');
        }
    }

    private static void scene(StringBuilder told, SeenInOrderOfAge x) {
        told.append(Due.sorts(x));
        for (int looker = 0; looker < x.status(0); looker++) {
            told.append(" looker");
            for (int what = 0; what < 18; what = what == 5 ? 10 : what + 1) {
                told.append(' ').append(x.lookerOf(looker, what));
            }
        }
        told.append(" evenings ").append(x.status(3)).append(" seed ").append(x.status(6));
    }
}
