import java.lang.reflect.InvocationTargetException;
import java.lang.reflect.Method;
import java.lang.reflect.Modifier;
import java.util.ArrayList;
import java.util.Arrays;
import java.util.List;
import java.util.Random;
import java.util.TreeMap;

/**
 * Runs of drawn calls, each answered by the program and by the plain model of the document; behind a run the
 * whole state is looked at. No object is used for more calls than the document lets it be.
 */
public final class PlainModelTest {
    private static final int RUNS = 3000;
    private static final int STEPS = 400;
    private static final int MOST_CALLS = 512;
    private static final int LONGEST_TEXT = 120;
    /** A step makes at most a text's calls and a few, and some calls are to be left to look with. */
    private static final int LAST_STEP = MOST_CALLS - LONGEST_TEXT - 60;

    private static final TreeMap<String, Method> PROGRAM = new TreeMap<>();
    private static final TreeMap<String, Method> MODEL = new TreeMap<>();
    private static int wrong = 0;

    /** A call of the face by its name, with what it is given. */
    private record Call(String name, Object[] given) {
        long onProgram(SeenInOrderOfAge x) {
            return answer(PROGRAM.get(name), x);
        }

        long onModel(PlainModel m) {
            return answer(MODEL.get(name), m);
        }

        private long answer(Method method, Object of) {
            try {
                return ((Number) method.invoke(of, given)).longValue();
            } catch (IllegalAccessException | InvocationTargetException e) {
                throw new IllegalStateException(told(), e);
            }
        }

        String told() {
            return name + Arrays.toString(given);
        }
    }

    private final SeenInOrderOfAge x = new SeenInOrderOfAge();
    private final PlainModel m = new PlainModel();
    private final List<Call> calls = new ArrayList<>();
    private final Random random;
    private final StringBuilder told = new StringBuilder();

    private PlainModelTest(long seed) {
        random = new Random(seed);
    }

    public static void main(String[] args) throws NoSuchMethodException {
        for (Method method : SeenInOrderOfAge.class.getDeclaredMethods()) {
            if (Modifier.isPublic(method.getModifiers())) {
                PROGRAM.put(method.getName(), method);
                MODEL.put(method.getName(), PlainModel.class.getDeclaredMethod(method.getName(), method.getParameterTypes()));
            }
        }
        for (int run = 0; run < RUNS && wrong == 0; run++) {
            new PlainModelTest(run).run();
        }
        System.out.println(wrong == 0 ? "the program answers as the plain model" : "the program answers otherwise");
        if (wrong != 0) {
            System.exit(1);
        }
    }

    private void run() {
        begin();
        int steps = random.nextInt(STEPS) / (1 + size()) + 20;
        for (int i = 0; i < steps && calls.size() < LAST_STEP && wrong == 0; i++) {
            step();
        }
        lookAtAll();
        if (wrong != 0) {
            System.out.println(told);
        }
    }

    private void begin() {
        int sorts = 2 + random.nextInt(7);
        for (int place = 0; place < 12; place++) {
            if (random.nextInt(5) != 0) {
                call("place", place, random.nextInt(sorts));
            }
        }
        int lookers = random.nextInt(9);
        for (int i = 0; i < lookers; i++) {
            call("looker", random.nextInt(6), random.nextInt(sorts), random.nextInt(random.nextBoolean() ? 4 : 100));
            for (int s = 0; s < sorts; s++) {
                if (random.nextInt(3) == 0) {
                    call("likes", i, s, true);
                }
            }
            if (random.nextBoolean()) {
                call("tell", i, 2, random.nextInt(sorts));
            }
        }
    }

    private long call(String name, Object... given) {
        Call call = new Call(name, given);
        calls.add(call);
        return answered(call, x);
    }

    private long answered(Call call, SeenInOrderOfAge of) {
        long want = call.onModel(m);
        long got = call.onProgram(of);
        told.append(call.told()).append(" -> ").append(want).append('\n');
        if (got != want || calls.size() > MOST_CALLS) {
            wrong++;
            told.append("  but the program answered ").append(got).append(", call ").append(calls.size()).append('\n');
        }
        return want;
    }

    /** The whole state is the same: read from objects behind the same calls, of each as much as it may be asked. */
    private void lookAtAll() {
        List<Call> reads = reads();
        int room = MOST_CALLS - calls.size();
        for (int from = 0; from < reads.size() && wrong == 0; from += room) {
            SeenInOrderOfAge again = new SeenInOrderOfAge();
            for (Call call : calls) {
                call.onProgram(again);
            }
            for (Call read : reads.subList(from, Math.min(from + room, reads.size()))) {
                answered(read, again);
            }
        }
    }

    private List<Call> reads() {
        List<Call> reads = new ArrayList<>();
        for (int place = 0; place < 12; place++) {
            reads.add(new Call("sortAt", new Object[] {place}));
        }
        for (int who = 0; who < size(); who++) {
            for (int what = 0; what < 18; what = what == 5 ? 10 : what + 1) {
                reads.add(new Call("lookerOf", new Object[] {who, what}));
            }
        }
        for (int what = -1; what < 18; what++) {
            reads.add(new Call("status", new Object[] {what}));
        }
        for (int s = 0; s < 8; s++) {
            reads.add(new Call("holds", new Object[] {s}));
            for (int i = -1; i < 41; i++) {
                reads.add(new Call("element", new Object[] {s, i}));
            }
        }
        return reads;
    }

    /** A number from least to most, or, now and then, one outside. */
    private int near(int least, int most) {
        if (random.nextInt(40) == 0) {
            return random.nextInt(3) == 0 ? random.nextInt() : random.nextBoolean() ? least - 1 : most + 1;
        }
        return most < least ? least : least + random.nextInt(most - least + 1);
    }

    private int size() {
        return m.world.people.size();
    }

    private int one() {
        return near(0, size() - 1);
    }

    private int many() {
        return near(0, (1 << size()) - 1);
    }

    private int shelf() {
        return near(0, 7);
    }

    /** The call for each what from one below the least to one above the most. */
    private void eachWhat(String name, int most, int... given) {
        for (int what = -1; what <= most + 1; what++) {
            Object[] all = new Object[given.length + 1];
            for (int i = 0; i < given.length; i++) {
                all[i] = given[i];
            }
            all[given.length] = what;
            call(name, all);
        }
    }

    private void step() {
        int which = random.nextInt(48);
        if (which < 14) {
            tellSomething(which);
        } else if (which < 31) {
            askOfSets(which);
        } else {
            askMore(which);
        }
    }

    private void tellSomething(int which) {
        switch (which) {
            case 0 -> call("row", shelf(), near(0, 4), near(0, 40));
            case 1 -> call("set", shelf(), near(0, 10), random.nextBoolean() ? random.nextLong() : random.nextInt(14) - 1L);
            case 2 -> {
                int p = shelf();
                call("copy", p, random.nextInt(3) == 0 ? p : shelf(), near(0, 5), near(0, 5), near(0, 6));
            }
            case 3 -> call("show", shelf(), near(-1, size() - 1));
            case 4 -> eachWhat("says", 5, shelf());
            case 5, 6 -> call("place", near(0, 11), near(-1, 7));
            case 7 -> call("looker", near(0, 5), near(0, 7), near(0, 99));
            case 8 -> call("likes", one(), near(0, 7), random.nextBoolean());
            case 9 -> {
                int what = near(0, 2);
                call("tell", one(), what, near(-1, what == 0 ? 12 : what == 1 ? 99 : 7));
            }
            case 10, 11, 12 -> text();
            default -> {
                call("feed", near(0, 255));
                call("wipe");
            }
        }
    }

    private String someText() {
        StringBuilder text = new StringBuilder();
        int statements = 1 + random.nextInt(5);
        String[] words = {"place", "clear", "looker", "likes", "comes", "shine"};
        int[][] most = {{11, 7}, {11}, {5, 7, 99}, {7, 7}, {7, 12}, {7, 7}};
        for (int i = 0; i < statements; i++) {
            int w = random.nextInt(6);
            text.append(i == 0 ? "" : random.nextBoolean() ? ";" : " ; ").append(words[w]);
            text.append(random.nextInt(3) == 0 ? "" : "  ");
            for (int k = 0; k < most[w].length; k++) {
                text.append(k == 0 ? "" : " ").append(near(0, most[w][k]));
            }
        }
        while (random.nextInt(3) == 0 && text.length() > 0) {
            int at = random.nextInt(text.length());
            String signs = "0 ;az-\u00e9\n9";
            if (random.nextBoolean()) {
                text.deleteCharAt(at);
            } else {
                text.insert(at, signs.charAt(random.nextInt(signs.length())));
            }
        }
        text.setLength(Math.min(text.length(), LONGEST_TEXT));
        return text.toString();
    }

    private void text() {
        String text = someText();
        for (int i = 0; i < text.length(); i++) {
            call("feed", (int) text.charAt(i));
        }
        call("window");
    }

    private void askOfSets(int which) {
        int a = one();
        int b = many();
        switch (which) {
            case 14 -> call("left", b);
            case 15 -> call("taken", b, a);
            case 16 -> call("glad", b, near(0, 1));
            case 17 -> eachWhat("order", 7, b);
            case 18 -> eachWhat("away", 1, a);
            case 19 -> eachWhat("crowd", 1, near(0, size()));
            case 20, 21 -> {
                call("setOut", b, -2);
                eachWhat("setOut", 2, b);
            }
            case 22 -> eachWhat("who", 3, random.nextInt(4) == 0 ? near(0, 4095) : m.noRefusal(() -> m.left(b)));
            case 23 -> eachWhat("kinds", 1, b, a, random.nextInt(4) == 0 ? near(0, 4095) : m.noRefusal(() -> m.taken(b, a)));
            case 24 -> call("odds", near(0, 11));
            case 25 -> call("likely", a);
            case 26 -> call("gladOdds", near(0, 8));
            case 27 -> call("meanLeft");
            case 28 -> eachWhat("sorts", 2, near(0, 7));
            case 29 -> eachWhat("rare", 1);
            default -> eachWhat("first", 2);
        }
    }

    private void askMore(int which) {
        int a = one();
        int b = many();
        switch (which) {
            case 31 -> call("places");
            case 32 -> call("gladOnes", b);
            case 33 -> call("empty", b);
            case 34 -> call("without", a);
            case 35 -> call("exchanged", a, one());
            case 36 -> call("bestPair");
            case 37 -> call("oldest", a);
            case 38 -> call("twice", b, many());
            case 39 -> call("unlike", b);
            case 40 -> call("next", a);
            case 41 -> {
                call("swapped");
                if (random.nextBoolean()) {
                    call("swap");
                }
            }
            case 42 -> judged(b);
            case 43 -> call("evening", b);
            case 44 -> call("christmases", random.nextInt(3) == 0 ? near(1, 40) : 1);
            case 45 -> call("seed", random.nextInt());
            case 46 -> call("image");
            default -> call("back");
        }
    }

    /** A told evening that is right, or nearly so, on a shelf. */
    private void judged(int set) {
        int s = random.nextInt(8);
        call("row", s, random.nextInt(4), random.nextInt(41));
        int all = set & (1 << size()) - 1;
        PlainModel.Night night = new PlainModel.Night(m.world, all, m.world.window);
        int at = 0;
        for (int who : night.turn) {
            call("set", s, at++, (long) who);
            call("set", s, at++, night.takes.get(who).isEmpty() ? -1L : night.takes.get(who).get(0));
        }
        if (random.nextBoolean()) {
            call("set", s, random.nextInt(at + 1), random.nextInt(14) - 1L);
        }
        call("judge", s, random.nextInt(3) == 0 ? near(0, 20) : at / 2);
    }
}
