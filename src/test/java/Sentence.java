/** A sentence of the document, by the promise that it is asked of; what is tried of it is told with it. */
final class Sentence {
    private static final int[] EXTREMES = {
        Integer.MIN_VALUE, Integer.MIN_VALUE + 1, -1, Integer.MAX_VALUE - 1, Integer.MAX_VALUE,
    };

    interface Scene {
        SeenInOrderOfAge make();
    }

    interface Call {
        long of(SeenInOrderOfAge x);
    }

    interface CallWith {
        long of(SeenInOrderOfAge x, int v);
    }

    interface Answer {
        long to(int v);
    }

    private final int promise;
    private final String words;

    private Sentence(int promise, String words) {
        this.promise = promise;
        this.words = words;
    }

    /** The words must stand in the document as they are quoted (see LedgerTest, which looks at all of them). */
    static Sentence of(int promise, String words) {
        return new Sentence(promise, words);
    }

    void is(String what, long got, long want) {
        Due.is(promise, "\"" + words + "\" - " + what, got, want);
    }

    void same(String what, String got, String want) {
        Due.same(promise, "\"" + words + "\" - " + what, got, want);
    }

    /** The call answers the number of the refusal; there is one more of that kind; nothing else is changed. */
    void refused(String what, Scene scene, Call call, int code) {
        leavesAll(what, scene, call, code);
    }

    /** The call answers, refuses nothing and changes nothing. */
    void asked(String what, Scene scene, Call call, long want) {
        leavesAll(what, scene, call, want);
    }

    private void leavesAll(String what, Scene scene, Call call, long want) {
        SeenInOrderOfAge x = scene.make();
        SeenInOrderOfAge other = scene.make();
        is(what, call.of(x), want);
        countsAsRefusal(what, x, other, want);
        same(what + " changes nothing", Story.of(x), Story.of(other));
    }

    /** One refusal more than another object tells, if the answer is the number of one; none more, if it isn't. */
    private void countsAsRefusal(String what, SeenInOrderOfAge x, SeenInOrderOfAge other, long code) {
        for (int c = Due.BAD; c >= Due.FULL; c--) {
            is(what + ", refusals " + c, x.status(10 - c), other.status(10 - c) + (c == code ? 1 : 0));
        }
    }

    /** On the bounds and just inside the call answers what is due; just outside and at the extremes it is BAD. */
    void bounds(String what, Scene scene, int least, int most, CallWith call, Answer want) {
        for (int v : new int[] {least, least + 1, most - 1, most}) {
            answers(what + " " + v, scene, call, v, want.to(v));
        }
        outside(what, scene, least, most, call);
    }

    /** What is asked changes nothing, on the bounds, just inside, just outside or at the extremes. */
    void asksBounds(String what, Scene scene, int least, int most, CallWith call, Answer want) {
        for (int v : new int[] {least, least + 1, most - 1, most}) {
            leavesAll(what + " " + v, scene, x -> call.of(x, v), want.to(v));
        }
        outside(what, scene, least, most, call);
    }

    void outside(String what, Scene scene, int least, int most, CallWith call) {
        outside(what, scene, least - 1, call);
        outside(what, scene, most + 1, call);
        for (int v : EXTREMES) {
            if (v < least || v > most) {
                outside(what, scene, v, call);
            }
        }
    }

    private void outside(String what, Scene scene, int v, CallWith call) {
        refused(what + " " + v, scene, x -> call.of(x, v), Due.BAD);
    }

    private void answers(String what, Scene scene, CallWith call, int v, long want) {
        SeenInOrderOfAge x = scene.make();
        SeenInOrderOfAge other = scene.make();
        is(what, call.of(x, v), want);
        countsAsRefusal(what, x, other, want);
    }
}
