import java.util.Random;

/** Runs of drawn calls, each answered by the program and by the plain model of the document. */
public final class PlainModelTest {
    private static final int RUNS = 1200;
    private static final int CALLS = 400;
    private static int wrong = 0;

    private final SeenInOrderOfAge x = new SeenInOrderOfAge();
    private final PlainModel m = new PlainModel();
    private final Random random;
    private final StringBuilder told = new StringBuilder();

    private PlainModelTest(long seed) {
        random = new Random(seed);
    }

    public static void main(String[] args) {
        for (int run = 0; run < RUNS && wrong < 5; run++) {
            new PlainModelTest(run).run();
        }
        System.out.println(wrong == 0 ? "the program answers as the plain model" : "the program answers otherwise");
        if (wrong != 0) {
            System.exit(1);
        }
    }

    private void run() {
        int sorts = 2 + random.nextInt(7);
        for (int place = 0; place < 12; place++) {
            if (random.nextInt(5) != 0) {
                int sort = random.nextInt(sorts);
                x.place(place, sort);
                m.place(place, sort);
            }
        }
        int lookers = random.nextInt(9);
        for (int i = 0; i < lookers; i++) {
            int[] v = {random.nextInt(6), random.nextInt(sorts), random.nextInt(random.nextBoolean() ? 4 : 100)};
            x.looker(v[0], v[1], v[2]);
            m.looker(v[0], v[1], v[2]);
            for (int s = 0; s < sorts; s++) {
                boolean is = random.nextInt(3) == 0;
                x.likes(i, s, is);
                m.likes(i, s, is);
            }
            tellShine(i, random.nextInt(sorts));
        }
        int calls = random.nextInt(CALLS) / (1 + lookers) + 20;
        for (int i = 0; i < calls && wrong == 0; i++) {
            call();
            look();
        }
        if (wrong != 0) {
            System.out.println(told);
        }
    }

    private void tellShine(int looker, int sort) {
        if (random.nextBoolean()) {
            x.tell(looker, 2, sort);
            m.tell(looker, 2, sort);
        }
    }

    /** A number from least to most, or, now and then, one outside. */
    private int near(int least, int most) {
        if (random.nextInt(40) == 0) {
            return random.nextInt(3) == 0 ? random.nextInt() : random.nextBoolean() ? least - 1 : most + 1;
        }
        return most < least ? least : least + random.nextInt(most - least + 1);
    }

    private int one() {
        return near(0, m.world.people.size() - 1);
    }

    private int many() {
        return near(0, (1 << m.world.people.size()) - 1);
    }

    private void due(String call, long got, long want) {
        told.append(call).append(" -> ").append(want).append('\n');
        if (got != want) {
            wrong++;
            told.append("  but the program answered ").append(got).append('\n');
        }
    }

    /** The whole state is the same. */
    private void look() {
        for (int place = 0; place < 12; place++) {
            if (x.sortAt(place) != m.sortAt(place)) {
                due("sortAt " + place, x.sortAt(place), m.sortAt(place));
            }
        }
        for (int who = 0; who < m.world.people.size(); who++) {
            for (int what = 0; what < 18; what = what == 5 ? 10 : what + 1) {
                if (x.lookerOf(who, what) != m.lookerOf(who, what)) {
                    due("lookerOf " + who + " " + what, x.lookerOf(who, what), m.lookerOf(who, what));
                }
            }
        }
        for (int what = -1; what < 18; what++) {
            if (x.status(what) != m.status(what)) {
                due("status " + what, x.status(what), m.status(what));
            }
        }
        for (int s = 0; s < 8; s++) {
            for (int i = -1; i < 41; i++) {
                if (x.holds(s) != m.holds(s) || x.element(s, i) != m.element(s, i)) {
                    due("element " + s + " " + i, x.element(s, i), m.element(s, i));
                }
            }
        }
    }

    private void call() {
        int which = random.nextInt(48);
        int a;
        int b;
        switch (which) {
            case 0:
                a = near(0, 7);
                b = near(0, 4);
                int size = near(0, 40);
                due("row " + a + " " + b + " " + size, x.row(a, b, size), m.row(a, b, size));
                break;
            case 1:
                a = near(0, 7);
                b = near(0, 10);
                long v = random.nextBoolean() ? random.nextLong() : random.nextInt(14) - 1;
                due("set " + a + " " + b + " " + v, x.set(a, b, v), m.set(a, b, v));
                break;
            case 2:
                copies();
                break;
            case 3:
                a = near(0, 7);
                b = near(-1, m.world.people.size() - 1);
                due("show " + a + " " + b, x.show(a, b), m.show(a, b));
                break;
            case 4:
                a = near(0, 7);
                for (int kind = -1; kind < 7; kind++) {
                    due("says " + a + " " + kind, x.says(a, kind), m.says(a, kind));
                }
                break;
            case 5:
            case 6:
                a = near(0, 11);
                b = near(-1, 7);
                due("place " + a + " " + b, x.place(a, b), m.place(a, b));
                break;
            case 7:
                int kind = near(0, 5);
                a = near(0, 7);
                b = near(0, 99);
                due("looker " + kind + " " + a + " " + b, x.looker(kind, a, b), m.looker(kind, a, b));
                break;
            case 8:
                a = one();
                b = near(0, 7);
                boolean is = random.nextBoolean();
                due("likes " + a + " " + b + " " + is, x.likes(a, b, is), m.likes(a, b, is));
                break;
            case 9:
                a = one();
                b = near(0, 2);
                int value = near(-1, b == 0 ? 12 : b == 1 ? 99 : 7);
                due("tell " + a + " " + b + " " + value, x.tell(a, b, value), m.tell(a, b, value));
                break;
            case 10:
            case 11:
            case 12:
                text();
                break;
            case 13:
                a = near(0, 255);
                due("feed " + a, x.feed(a), m.feed(a));
                due("wipe", x.wipe(), m.wipe());
                break;
            default:
                ask(which);
        }
    }

    private void copies() {
        int p = near(0, 7);
        int q = random.nextInt(3) == 0 ? p : near(0, 7);
        int i = near(0, 5);
        int j = near(0, 5);
        int n = near(0, 6);
        due("copy " + p + " " + q + " " + i + " " + j + " " + n, x.copy(p, q, i, j, n), m.copy(p, q, i, j, n));
    }

    private String someText() {
        StringBuilder text = new StringBuilder();
        int statements = 1 + random.nextInt(5);
        String[] words = {"place", "clear", "looker", "likes", "comes", "shine"};
        int[][] most = {{11, 7}, {11}, {5, 7, 99}, {7, 7}, {7, 12}, {7, 7}};
        for (int i = 0; i < statements; i++) {
            int w = random.nextInt(6);
            text.append(i == 0 ? "" : random.nextBoolean() ? ";" : " ; ").append(words[w]);
            text.append(random.nextInt(3) == 0 ? "" : "  ");
            for (int k = 0; k < most[w].length; k++) {
                text.append(k == 0 ? "" : " ").append(near(0, most[w][k]));
            }
        }
        while (random.nextInt(3) == 0 && text.length() > 0) {
            int at = random.nextInt(text.length());
            String signs = "0 ;az-\u00e9\n9";
            if (random.nextBoolean()) {
                text.deleteCharAt(at);
            } else {
                text.insert(at, signs.charAt(random.nextInt(signs.length())));
            }
        }
        return text.toString();
    }

    private void text() {
        String text = someText();
        for (int i = 0; i < text.length(); i++) {
            if (x.feed(text.charAt(i)) != m.feed(text.charAt(i))) {
                wrong++;
            }
        }
        due("window '" + text + "'", x.window(), m.window());
    }

    private void ask(int which) {
        int a = one();
        int b = many();
        switch (which) {
            case 14:
                due("left " + b, x.left(b), m.left(b));
                break;
            case 15:
                due("taken " + b + " " + a, x.taken(b, a), m.taken(b, a));
                break;
            case 16:
                int what = near(0, 1);
                due("glad " + b + " " + what, x.glad(b, what), m.glad(b, what));
                break;
            case 17:
                for (int i = -1; i < 9; i++) {
                    due("order " + b + " " + i, x.order(b, i), m.order(b, i));
                }
                break;
            case 18:
                due("away " + a + " 0", x.away(a, 0), m.away(a, 0));
                due("away " + a + " 1", x.away(a, 1), m.away(a, 1));
                due("away " + a + " 2", x.away(a, 2), m.away(a, 2));
                break;
            case 19:
                int k = near(0, m.world.people.size());
                due("crowd " + k + " 0", x.crowd(k, 0), m.crowd(k, 0));
                due("crowd " + k + " 1", x.crowd(k, 1), m.crowd(k, 1));
                due("crowd " + k + " -1", x.crowd(k, -1), m.crowd(k, -1));
                break;
            case 20:
            case 21:
                for (int i = -2; i < 4; i++) {
                    due("setOut " + b + " " + i, x.setOut(b, i), m.setOut(b, i));
                }
                break;
            case 22:
                int left = random.nextInt(4) == 0 ? near(0, 4095) : m.noRefusal(() -> m.left(b));
                for (int i = -1; i < 5; i++) {
                    due("who " + left + " " + i, x.who(left, i), m.who(left, i));
                }
                break;
            case 23:
                int taken = random.nextInt(4) == 0 ? near(0, 4095) : m.noRefusal(() -> m.taken(b, a));
                for (int i = -1; i < 3; i++) {
                    due("kinds " + b + " " + a + " " + taken + " " + i, x.kinds(b, a, taken, i), m.kinds(b, a, taken, i));
                }
                break;
            case 24:
                int place = near(0, 11);
                due("odds " + place, x.odds(place), m.odds(place));
                break;
            case 25:
                due("likely " + a, x.likely(a), m.likely(a));
                break;
            case 26:
                int least = near(0, 8);
                due("gladOdds " + least, x.gladOdds(least), m.gladOdds(least));
                break;
            case 27:
                due("meanLeft", x.meanLeft(), m.meanLeft());
                break;
            case 28:
                int sort = near(0, 7);
                for (int i = -1; i < 4; i++) {
                    due("sorts " + sort + " " + i, x.sorts(sort, i), m.sorts(sort, i));
                }
                break;
            default:
                askMore(which, a, b);
        }
    }

    private void askMore(int which, int a, int b) {
        int other = one();
        switch (which) {
            case 29:
                for (int i = -1; i < 3; i++) {
                    due("rare " + i, x.rare(i), m.rare(i));
                }
                break;
            case 30:
                for (int i = -1; i < 4; i++) {
                    due("first " + i, x.first(i), m.first(i));
                }
                break;
            case 31:
                due("places", x.places(), m.places());
                break;
            case 32:
                due("gladOnes " + b, x.gladOnes(b), m.gladOnes(b));
                break;
            case 33:
                due("empty " + b, x.empty(b), m.empty(b));
                break;
            case 34:
                due("without " + a, x.without(a), m.without(a));
                break;
            case 35:
                due("exchanged " + a + " " + other, x.exchanged(a, other), m.exchanged(a, other));
                break;
            case 36:
                due("bestPair", x.bestPair(), m.bestPair());
                break;
            case 37:
                due("oldest " + a, x.oldest(a), m.oldest(a));
                break;
            case 38:
                int then = many();
                due("twice " + b + " " + then, x.twice(b, then), m.twice(b, then));
                break;
            case 39:
                due("unlike " + b, x.unlike(b), m.unlike(b));
                break;
            case 40:
                due("next " + a, x.next(a), m.next(a));
                break;
            case 41:
                due("swapped", x.swapped(), m.swapped());
                if (random.nextBoolean()) {
                    due("swap", x.swap(), m.swap());
                }
                break;
            case 42:
                judged(b);
                break;
            case 43:
                due("evening " + b, x.evening(b), m.evening(b));
                break;
            case 44:
                int n = random.nextInt(3) == 0 ? near(1, 40) : 1;
                due("christmases " + n, x.christmases(n), m.christmases(n));
                break;
            case 45:
                int seed = random.nextInt();
                due("seed " + seed, x.seed(seed), m.seed(seed));
                break;
            case 46:
                due("image", x.image(), m.image());
                break;
            default:
                due("back", x.back(), m.back());
        }
    }

    /** A told evening that is right, or nearly so, on a shelf. */
    private void judged(int set) {
        int s = random.nextInt(8);
        int size = random.nextInt(41);
        int sort = random.nextInt(4);
        due("row " + s + " " + sort + " " + size, x.row(s, sort, size), m.row(s, sort, size));
        int all = set & (1 << m.world.people.size()) - 1;
        PlainModel.Night night = new PlainModel.Night(m.world, all, m.world.window);
        int at = 0;
        for (int who : night.turn) {
            putElement(s, at++, who);
            putElement(s, at++, night.takes.get(who).isEmpty() ? -1 : night.takes.get(who).get(0));
        }
        if (random.nextBoolean()) {
            putElement(s, random.nextInt(at + 1), random.nextInt(14) - 1);
        }
        int n = random.nextInt(3) == 0 ? near(0, 20) : at / 2;
        due("judge " + s + " " + n, x.judge(s, n), m.judge(s, n));
    }

    private void putElement(int s, int i, long v) {
        due("set " + s + " " + i + " " + v, x.set(s, i, v), m.set(s, i, v));
    }
}
