import java.util.ArrayList;
import java.util.List;

/**
 * "3. WHAT COMES OF IT (nothing is changed)": each question, asked behind each other one of the same object,
 * answers as if it were the first; and so it does behind each refused call.
 */
public final class NothingChangedTest {
    private static final List<Sentence.Call> QUESTIONS = new ArrayList<>();
    private static final List<Sentence.Call> REFUSED = new ArrayList<>();

    public static void main(String[] args) {
        ofLookers();
        ofSets();
        ofAll();
        refused();
        behindEachOther("dressed", Scenes::dressed);
        behindEachOther("crowded", NothingChangedTest::crowded);
        behindEachOther("bare", Scenes::bare);
        Due.end();
    }

    /** Eight lookers of all kinds who are in one another's way. */
    private static SeenInOrderOfAge crowded() {
        SeenInOrderOfAge x = Due.window("1221.330113.");
        int[] ages = {50, 7, 80, 7, 99, 0, 30, 64};
        String[] likes = {"2", "13", "0", "", "123", "03", "7", "12"};
        for (int i = 0; i < 8; i++) {
            Due.looker(x, i % 6, 1 + i % 3, ages[i], likes[i]);
            x.tell(i, 0, 12 - i);
            x.tell(i, 2, i % 4);
        }
        x.row(0, 0, 4);
        x.set(0, 0, 5);
        x.set(0, 1, 5);
        x.set(0, 2, 1);
        x.show(2, 3);
        return x;
    }

    private static void ofLookers() {
        for (int looker = 0; looker < 8; looker += 2) {
            int one = looker;
            QUESTIONS.add(x -> x.away(one, 0));
            QUESTIONS.add(x -> x.away(one, 1));
            QUESTIONS.add(x -> x.likely(one));
            QUESTIONS.add(x -> x.without(one));
            QUESTIONS.add(x -> x.oldest(one));
            QUESTIONS.add(x -> x.next(one));
            QUESTIONS.add(x -> x.exchanged(one, 1));
            QUESTIONS.add(x -> x.lookerOf(one, 2));
            QUESTIONS.add(x -> x.kinds(1 << one | 1, one, 0, 0));
            QUESTIONS.add(x -> x.kinds(1 << one | 1, one, 0, 1));
        }
    }

    private static void ofSets() {
        for (int set : new int[] {0, 1, 2, 5, 7, 0b10101010, 255}) {
            QUESTIONS.add(x -> x.left(set));
            QUESTIONS.add(x -> x.taken(set, 1));
            QUESTIONS.add(x -> x.glad(set, 0));
            QUESTIONS.add(x -> x.glad(set, 1));
            QUESTIONS.add(x -> x.gladOnes(set));
            QUESTIONS.add(x -> x.empty(set));
            QUESTIONS.add(x -> x.order(set, 0));
            QUESTIONS.add(x -> x.order(set, 1));
            QUESTIONS.add(x -> x.twice(set, 3));
            QUESTIONS.add(x -> x.unlike(set));
            QUESTIONS.add(x -> x.setOut(set, Due.NONE));
            QUESTIONS.add(x -> x.setOut(set, 0));
        }
    }

    private static void ofAll() {
        for (int v : new int[] {0, 1, 3}) {
            QUESTIONS.add(x -> x.crowd(v, 0));
            QUESTIONS.add(x -> x.crowd(v, 1));
            QUESTIONS.add(x -> x.who(x.places() - v, 0));
            QUESTIONS.add(x -> x.who(x.places() - v, 1));
            QUESTIONS.add(x -> x.who(x.places() - v, 2));
            QUESTIONS.add(x -> x.who(x.places() - v, 3));
            QUESTIONS.add(x -> x.who(2048, v));
            QUESTIONS.add(x -> x.odds(v));
            QUESTIONS.add(x -> x.gladOdds(v));
            QUESTIONS.add(x -> x.sorts(v, 0));
            QUESTIONS.add(x -> x.sorts(v, 1));
            QUESTIONS.add(x -> x.rare(v));
            QUESTIONS.add(x -> x.first(v));
            QUESTIONS.add(x -> x.judge(0, v));
            QUESTIONS.add(x -> x.says(2, v));
        }
        QUESTIONS.add(x -> x.meanLeft());
        QUESTIONS.add(x -> x.bestPair());
        QUESTIONS.add(x -> x.swapped());
        QUESTIONS.add(x -> x.places());
    }

    private static void refused() {
        REFUSED.add(x -> x.row(8, 0, 0));
        REFUSED.add(x -> x.set(0, 40, 1));
        REFUSED.add(x -> x.copy(0, 0, 0, 0, 41));
        REFUSED.add(x -> x.show(0, 8));
        REFUSED.add(x -> x.place(12, 0));
        REFUSED.add(x -> x.looker(0, 0, 100));
        REFUSED.add(x -> x.likes(8, 0, true));
        REFUSED.add(x -> x.tell(0, 1, 100));
        REFUSED.add(x -> x.feed(256));
        REFUSED.add(x -> x.evening(256));
        REFUSED.add(x -> x.christmases(41));
        REFUSED.add(x -> {
            x.wipe();
            Scenes.feed(x, "place 0 0;clear 1;looker 0 0 0;likes 0 7;shine 0 7;comes 0 0;place");
            return x.window();
        });
    }

    private static void behindEachOther(String what, Sentence.Scene scene) {
        Sentence s = Sentence.of(18, "3. WHAT COMES OF IT (nothing is changed)");
        Sentence r = Sentence.of(18, "REFUSALS (the call answers the number; nothing changes but how many there were; ");
        for (int second = 0; second < QUESTIONS.size(); second++) {
            long want = QUESTIONS.get(second).of(scene.make());
            for (int first = 0; first < QUESTIONS.size(); first++) {
                SeenInOrderOfAge x = scene.make();
                QUESTIONS.get(first).of(x);
                s.is(what + ": question " + second + " behind question " + first, QUESTIONS.get(second).of(x), want);
            }
            SeenInOrderOfAge x = scene.make();
            for (int first = 0; first < REFUSED.size(); first++) {
                int refusals = refusals(x);
                REFUSED.get(first).of(x);
                r.is(what + ": one refusal more by " + first, refusals(x), refusals + 1);
            }
            r.is(what + ": question " + second + " behind the refused calls", QUESTIONS.get(second).of(x), want);
        }
    }

    private static int refusals(SeenInOrderOfAge x) {
        int number = 0;
        for (int what = 12; what < 17; what++) {
            number += x.status(what);
        }
        return number;
    }
}
