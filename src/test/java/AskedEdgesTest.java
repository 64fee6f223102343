/** The edges of promises 22 to 33 and 38 to 40 and of what the document says comes of it: nothing is changed. */
public final class AskedEdgesTest {
    public static void main(String[] args) {
        fewestAway();
        otherOnes();
        firstSetAway();
        itCantBe();
        crowdOfAll();
        crowdFirst();
        zeroToThree();
        someA();
        firstEmptyFirst();
        firstRow();
        noRoom();
        howManySets();
        noSets();
        whoInAll();
        justThese();
        asTheyAre();
        wishes();
        wishesTold();
        oddsCut();
        oddsOfNever();
        likelyIfHeComes();
        likelyCut();
        gladOddsAtLeast();
        meanCut();
        howManyOfASort();
        rareAndMost();
        whoIsFirst();
        eachOthersAge();
        bestPair();
        greatestAge();
        ageByNumbers();
        Due.end();
    }

    /** Lookers of one KIND each of whose a's is told, each a year older than the one before him. */
    private static SeenInOrderOfAge row(String window, int kind, int... as) {
        SeenInOrderOfAge x = Due.window(window);
        for (int i = 0; i < as.length; i++) {
            x.looker(kind, as[i], 10 + i);
        }
        return x;
    }

    private static void fewestAway() {
        Sentence s = Sentence.of(22, "AWAY: the fewest LOOKERS (other ones) who must stay away, if all others come, so that one takes a THING of his a");
        Sentence.Scene eight = () -> row("1", Due.LOOKER, 1, 1, 1, 1, 1, 1, 1, 1);
        for (int i = 0; i < 8; i++) {
            int one = i;
            s.asked("of the " + i + "th", eight, x -> x.away(one, 0), i);
            s.asked("the set of the " + i + "th", eight, x -> x.away(one, 1), (1 << i) - 1);
        }
        Sentence.Scene child = () -> {
            SeenInOrderOfAge x = row("111", Due.LOOKER, 1, 1);
            x.looker(Due.CHILD, 1, 12);
            x.looker(Due.LOOKER, 1, 13);
            return x;
        };
        s.asked("the CHILD alone is fewer than both ahead of him", child, x -> x.away(3, 0), 1);
        s.asked("so he must", child, x -> x.away(3, 1), 4);
        Sentence.Scene helped = () -> {
            SeenInOrderOfAge x = Due.window("112");
            x.looker(Due.CHILD, 1, 1);
            Due.looker(x, Due.SHY, 2, 2, "1");
            return x;
        };
        s.asked("who is GLAD only if another comes", helped, x -> x.away(1, 0), 0);
        s.asked("nobody must", helped, x -> x.away(1, 1), 0);
        s.asked("alone he is not", helped, x -> x.gladOnes(2), 0);
    }

    private static void otherOnes() {
        Sentence s = Sentence.of(22, "the fewest LOOKERS (other ones)");
        s.asked("the only one is GLAD", () -> row("1", Due.LOOKER, 1), x -> x.away(0, 0), 0);
        s.asked("or it can't be", () -> row("2", Due.LOOKER, 1), x -> x.away(0, 0), Due.NONE);
        Sentence.Scene last = () -> row("1", Due.LOOKER, 1, 1, 1);
        s.asked("he himself must not", last, x -> x.away(1, 1), 1);
        s.asked("nor those who look behind him", last, x -> x.away(0, 1), 0);
    }

    private static void firstSetAway() {
        Sentence s = Sentence.of(22, "of several the first set as bits");
        Sentence.Scene scene = () -> {
            SeenInOrderOfAge x = row("11", Due.LOOKER, 1, 1, 1, 1);
            x.tell(0, 1, 99);
            return x;
        };
        s.asked("two of three", scene, x -> x.away(0, 0), 2);
        s.asked("the first two", scene, x -> x.away(0, 1), 6);
        s.asked("one of two", scene, x -> x.away(3, 1), 2);
    }

    private static void itCantBe() {
        Sentence s = Sentence.of(22, "how many (NONE: it can't be)");
        s.asked("no THINGS", () -> row("", Due.LOOKER, 0, 0), x -> x.away(0, 0), Due.NONE);
        s.asked("no set", () -> row("", Due.LOOKER, 0, 0), x -> x.away(1, 1), Due.NONE);
        s.asked("a GIVER before one THING", () -> row("0", Due.GIVER, 0), x -> x.away(0, 0), Due.NONE);
        s.asked("a GIVER before two THINGS", () -> row("00", Due.GIVER, 0), x -> x.away(0, 0), 0);
        s.asked("two GIVERS before two", () -> row("00", Due.GIVER, 0, 0), x -> x.away(1, 1), 1);
        s.asked("eight who all want another", () -> row("7", Due.LOOKER, 0, 0, 0, 0, 0, 0, 0, 0), x -> x.away(7, 0), Due.NONE);
    }

    private static void crowdOfAll() {
        Sentence s = Sentence.of(23, "CROWD of k (0 to as many as there are): how many are GLAD (what 0), the set (1).");
        Sentence.Scene scene = () -> row("1122", Due.LOOKER, 1, 2, 3, 1, 2, 1, 2, 3);
        int[] glad = {0, 1, 2, 3, 4, 4, 4, 4, 4};
        int[] sets = {0, 1, 3, 11, 27, 31, 63, 127, 255};
        for (int k = 0; k <= 8; k++) {
            int of = k;
            s.asked("GLAD of " + k, scene, x -> x.crowd(of, 0), glad[k]);
            s.asked("the set of " + k, scene, x -> x.crowd(of, 1), sets[k]);
        }
        s.refused("more than there are", scene, x -> x.crowd(9, 0), Due.BAD);
        s.asked("of nobody", Scenes::bare, x -> x.crowd(0, 0), 0);
        s.asked("the set of nobody", Scenes::bare, x -> x.crowd(0, 1), 0);
        s.refused("one of nobody", Scenes::bare, x -> x.crowd(1, 0), Due.BAD);
    }

    private static void crowdFirst() {
        Sentence s = Sentence.of(23, "CROWD of k: the set of k LOOKERS of whom most are GLAD, of several the first as bits: how many; the set.");
        Sentence.Scene none = () -> row("7", Due.LOOKER, 0, 1, 2, 3);
        int[] sets = {0, 1, 3, 7, 15};
        for (int k = 0; k <= 4; k++) {
            int of = k;
            s.asked("nobody is GLAD of " + k, none, x -> x.crowd(of, 0), 0);
            s.asked("the first set of " + k, none, x -> x.crowd(of, 1), sets[k]);
        }
        Sentence.Scene last = () -> row("3", Due.LOOKER, 0, 1, 2, 3);
        s.asked("the last one", last, x -> x.crowd(1, 1), 8);
        s.asked("the last and the first", last, x -> x.crowd(2, 1), 9);
        s.asked("three", last, x -> x.crowd(3, 1), 11);
    }

    private static void setOut(Sentence s, String what, Sentence.Scene scene, int set, int... sorts) {
        s.asked(what + ", how many", scene, x -> x.setOut(set, Due.NONE), sorts.length);
        for (int i = 0; i < sorts.length; i++) {
            int at = i;
            s.asked(what + ", SORT " + i, scene, x -> x.setOut(set, at), sorts[i]);
        }
        s.refused(what + ", no more", scene, x -> x.setOut(set, sorts.length), Due.STUCK);
    }

    private static void cantSetOut(Sentence s, String what, Sentence.Scene scene, int set) {
        s.asked(what + ", how many", scene, x -> x.setOut(set, Due.NONE), Due.NONE);
        s.refused(what + ", the first", scene, x -> x.setOut(set, 0), Due.STUCK);
    }

    private static void zeroToThree() {
        Sentence s = Sentence.of(24, "how many (0 to 3; NONE: three aren't enough, or there is no room)");
        setOut(s, "nobody", () -> row("", Due.LOOKER, 1), 0);
        setOut(s, "nobody there", Scenes::bare, 0);
        setOut(s, "GLAD already", () -> row("1", Due.LOOKER, 1), 1);
        setOut(s, "one", () -> row("", Due.LOOKER, 1), 1, 1);
        setOut(s, "two", () -> row("", Due.LOOKER, 1, 2), 3, 1, 2);
        setOut(s, "three", () -> row("", Due.LOOKER, 1, 2, 3), 7, 1, 2, 3);
        cantSetOut(s, "four", () -> row("", Due.LOOKER, 1, 2, 3, 4), 15);
        setOut(s, "three of four", () -> row("", Due.LOOKER, 1, 2, 3, 4), 14, 2, 3, 4);
        cantSetOut(s, "four of one SORT", () -> row("", Due.LOOKER, 1, 1, 1, 1), 15);
        setOut(s, "three of one SORT", () -> row("1", Due.LOOKER, 1, 1, 1, 1), 15, 1, 1, 1);
        cantSetOut(s, "eight", () -> row("", Due.LOOKER, 0, 1, 2, 3, 4, 5, 6, 7), 255);
        setOut(s, "the least and the greatest SORT", () -> row("", Due.LOOKER, 7, 0), 3, 0, 7);
        setOut(s, "a GIVER needs two", () -> row("", Due.GIVER, 5), 1, 5, 5);
        setOut(s, "a GIVER needs one more", () -> row("5", Due.GIVER, 5), 1, 5);
    }

    private static void someA() {
        Sentence s = Sentence.of(24, "SET OUT: the fewest THINGS more, each of some a of those who come (a set)");
        Sentence.Scene scene = () -> {
            SeenInOrderOfAge x = Due.window("");
            Due.looker(x, Due.CHILD, 3, 1, "1");
            Due.looker(x, Due.OLD, 3, 2, "");
            Due.looker(x, Due.LOOKER, 1, 3, "");
            return x;
        };
        setOut(s, "the CHILD and the OLD one, none for whom it is an a", scene, 3, 3, 3, 3);
        setOut(s, "the CHILD alone", scene, 1, 3);
        Sentence.Scene behind = () -> {
            SeenInOrderOfAge x = Due.window(".0.0000004..");
            Due.looker(x, Due.OLD, 2, 1, "4");
            x.looker(Due.LOOKER, 1, 2);
            x.looker(Due.LOOKER, 3, 0);
            return x;
        };
        setOut(s, "not of an a of those who don't come", behind, 1, 2, 2, 2);
        cantSetOut(s, "of an a of those who come, but three aren't enough", () -> row("", Due.LOOKER, 1, 2, 3, 4), 15);
        setOut(s, "of an a of one who is GLAD already", () -> {
            SeenInOrderOfAge x = behind.make();
            x.place(1, 1);
            return x;
        }, 3, 1, 1, 2);
        setOut(s, "the CHILD and one whose a is the other he LIKES", scene, 5, 1, 1, 3);
    }

    private static void firstEmptyFirst() {
        Sentence s = Sentence.of(24, "put into empty PLACES, the first empty one first, so that all of the set are GLAD: ");
        Sentence.Scene behind = () -> {
            SeenInOrderOfAge x = Due.window("...0......4.");
            Due.looker(x, Due.OLD, 2, 1, "4");
            return x;
        };
        cantSetOut(s, "not into the last PLACE, where he would take it", behind, 1);
        Sentence.Scene third = () -> {
            SeenInOrderOfAge x = Due.window(".0.0000004..");
            Due.looker(x, Due.OLD, 2, 1, "4");
            return x;
        };
        setOut(s, "the third into the PLACE behind what he LIKES", third, 1, 2, 2, 2);
        Sentence.Scene last = () -> {
            SeenInOrderOfAge x = Due.window("00000000004.");
            Due.looker(x, Due.OLD, 2, 1, "4");
            return x;
        };
        setOut(s, "into the last PLACE, if it is the first", last, 1, 2);
    }

    private static void firstRow() {
        Sentence s = Sentence.of(24, "of several the first row of SORTS: the i-th SORT.");
        setOut(s, "by SORTS, not by numbers", () -> row("", Due.LOOKER, 6, 4, 5), 7, 4, 5, 6);
        Sentence.Scene turned = () -> {
            SeenInOrderOfAge x = Due.window("");
            Due.looker(x, Due.OLD, 1, 1, "2");
            Due.looker(x, Due.LOOKER, 2, 2, "");
            return x;
        };
        setOut(s, "the first row isn't enough", turned, 3, 2, 1);
        setOut(s, "a row ahead of others that are enough, too", () -> {
            SeenInOrderOfAge x = Due.window("..51");
            Due.looker(x, Due.CHILD, 3, 1, "5");
            Due.looker(x, Due.LOOKER, 5, 2, "");
            Due.looker(x, Due.LOOKER, 1, 3, "");
            return x;
        }, 7, 3, 3);
        Sentence.Scene middle = () -> {
            SeenInOrderOfAge x = Due.window("");
            Due.looker(x, Due.OLD, 1, 1, "02");
            Due.looker(x, Due.LOOKER, 2, 2, "");
            Due.looker(x, Due.LOOKER, 0, 3, "");
            return x;
        };
        setOut(s, "what he wants comes last", middle, 7, 0, 2, 1);
    }

    private static void noRoom() {
        Sentence s = Sentence.of(24, "NONE: three aren't enough, or there is no room");
        cantSetOut(s, "no empty PLACE", () -> row("000000000000", Due.LOOKER, 1), 1);
        setOut(s, "one for one", () -> row("00000000000.", Due.LOOKER, 1), 1, 1);
        cantSetOut(s, "one for two", () -> row("00000000000.", Due.LOOKER, 1, 2), 3);
        setOut(s, "two for two", () -> row(".0000000000.", Due.LOOKER, 1, 2), 3, 1, 2);
        cantSetOut(s, "two for three", () -> row(".0000000000.", Due.LOOKER, 1, 2, 3), 7);
        setOut(s, "three for three", () -> row("000000000...", Due.LOOKER, 1, 2, 3), 7, 1, 2, 3);
        cantSetOut(s, "four for four", () -> row("00000000....", Due.LOOKER, 1, 2, 3, 4), 15);
        setOut(s, "no room, but all are GLAD", () -> row("000000000000", Due.LOOKER, 0, 0), 3);
        cantSetOut(s, "what he takes first stands ahead", () -> {
            SeenInOrderOfAge x = Due.window("");
            Due.looker(x, Due.SHY, 2, 1, "1");
            for (int i = 0; i < 4; i++) {
                x.place(i, 1);
            }
            return x;
        }, 1);
    }

    private static void howManySets() {
        Sentence s = Sentence.of(25, "WHO by a set of PLACES told LEFT: how many sets of LOOKERS leave just that; the first as bits; who came in all of them (bits); who in some.");
        Sentence.Scene nobodyWants = () -> row("0", Due.LOOKER, 1, 1, 1, 1, 1, 1, 1, 1);
        int[] all = {256, 0, 0, 255};
        Sentence.Scene allWant = () -> row("1", Due.LOOKER, 1, 1, 1, 1, 1, 1, 1, 1);
        int[] some = {255, 1, 0, 255};
        int[] none = {1, 0, 0, 0};
        for (int what = 0; what < 4; what++) {
            int w = what;
            s.asked("nobody takes it, " + what, nobodyWants, x -> x.who(1, w), all[what]);
            s.asked("somebody took it, " + what, allWant, x -> x.who(0, w), some[what]);
            s.asked("nobody took it, " + what, allWant, x -> x.who(1, w), none[what]);
            s.asked("nobody is there, " + what, Scenes::bare, x -> x.who(0, w), none[what]);
        }
    }

    private static void noSets() {
        Sentence s = Sentence.of(25, "WHO by PLACES (bits) told LEFT: how many sets (what 0), the first (1; NONE), who came in all (2; NONE: there are no sets), in some (3).");
        Sentence.Scene scene = () -> row("01", Due.LOOKER, 0, 1);
        int[] want = {0, Due.NONE, Due.NONE, 0};
        for (int what = 0; what < 4; what++) {
            int w = what;
            s.asked("a PLACE that was empty, " + what, scene, x -> x.who(4, w), want[what]);
            s.asked("a PLACE more, " + what, scene, x -> x.who(7, w), want[what]);
            s.asked("all PLACES, " + what, scene, x -> x.who(4095, w), want[what]);
            s.asked("what somebody must take, " + what, () -> row("0000", Due.LOOKER, 0, 0), x -> x.who(3, w), want[what]);
            s.asked("all of no THINGS, " + what, Scenes::bare, x -> x.who(4095, w), want[what]);
        }
        s.is("the last PLACE", Due.window("...........1").who(2048, 0), 1);
    }

    private static void whoInAll() {
        Sentence s = Sentence.of(25, "who came in all of them (bits); who in some");
        Sentence.Scene scene = () -> row("011", Due.LOOKER, 0, 1, 1, 5);
        int[] first = {4, 3, 1, 15};
        int[] both = {2, 7, 7, 15};
        for (int what = 0; what < 4; what++) {
            int w = what;
            s.asked("one of two, " + what, scene, x -> x.who(4, w), first[what]);
            s.asked("two of two, " + what, scene, x -> x.who(0, w), both[what]);
        }
    }

    private static void justThese() {
        Sentence s = Sentence.of(26, "KINDS of one by PLACES (bits) told TAKEN, if a set comes: KINDS (bits) by which he would have taken just these, a, AGE, LIKES as they are.");
        Sentence.Scene bare = () -> row("", Due.LOOKER, 2);
        s.asked("nothing of nothing", bare, x -> x.kinds(1, 0, 0, 0), 63);
        s.asked("something of nothing", bare, x -> x.kinds(1, 0, 1, 0), 0);
        s.asked("all of nothing", bare, x -> x.kinds(1, 0, 4095, 0), 0);
        Sentence.Scene last = () -> row("...........2", Due.LOOKER, 2);
        s.asked("the only one", last, x -> x.kinds(1, 0, 2048, 0), 0b101111);
        s.asked("nothing of the only one", last, x -> x.kinds(1, 0, 0, 0), 0b010000);
        Sentence.Scene full = () -> row("222222222222", Due.SHY, 2);
        s.asked("all", full, x -> x.kinds(1, 0, 4095, 0), 1 << Due.GREEDY);
        s.asked("the first two", full, x -> x.kinds(1, 0, 3, 0), 1 << Due.CHILD);
        s.asked("the first", full, x -> x.kinds(1, 0, 1, 0), 1 << Due.LOOKER | 1 << Due.SHY);
        s.asked("the last", full, x -> x.kinds(1, 0, 2048, 0), 1 << Due.OLD | 1 << Due.GIVER);
        s.asked("the last two", full, x -> x.kinds(1, 0, 3072, 0), 0);
        s.asked("nothing", full, x -> x.kinds(1, 0, 0, 0), 0);
    }

    private static void asTheyAre() {
        Sentence s = Sentence.of(26, "a, AGE, LIKES as they are");
        Sentence.Scene scene = () -> {
            SeenInOrderOfAge x = Due.window("22.1");
            x.looker(Due.LOOKER, 2, 20);
            Due.looker(x, Due.OLD, 2, 20, "1");
            x.looker(Due.LOOKER, 2, 21);
            return x;
        };
        s.asked("behind the one of the same AGE", scene, x -> x.kinds(7, 1, 2, 0), 1 << Due.LOOKER | 1 << Due.GREEDY);
        s.asked("what he LIKES besides", scene, x -> x.kinds(7, 1, 8, 0), 1 << Due.OLD | 1 << Due.SHY);
        s.asked("both", scene, x -> x.kinds(7, 1, 10, 0), 1 << Due.CHILD);
        s.asked("nothing", scene, x -> x.kinds(7, 1, 0, 0), 1 << Due.GIVER);
        s.asked("without the other", scene, x -> x.kinds(6, 1, 3, 0), 1 << Due.CHILD | 1 << Due.GREEDY);
    }

    private static void wishes() {
        Sentence s = Sentence.of(26, "WISHES: SORTS (bits) which, as his a (LIKES as they are), make him take just these.");
        Sentence.Scene bare = () -> row("", Due.LOOKER, 2);
        s.asked("nothing of nothing", bare, x -> x.kinds(1, 0, 0, 1), 255);
        s.asked("something of nothing", bare, x -> x.kinds(1, 0, 1, 1), 0);
        Sentence.Scene all = () -> row("01234567", Due.LOOKER, 2);
        for (int sort = 0; sort < 8; sort++) {
            int place = sort;
            s.asked("PLACE " + sort, all, x -> x.kinds(1, 0, 1 << place, 1), 1 << sort);
        }
        s.asked("no PLACE", all, x -> x.kinds(1, 0, 0, 1), 0);
        s.asked("two PLACES", all, x -> x.kinds(1, 0, 3, 1), 0);
    }

    private static void wishesTold() {
        Sentence s = Sentence.of(26, "(LIKES as they are)");
        Sentence.Scene untold = () -> row("2", Due.LOOKER, 2);
        s.asked("his a is not told", untold, x -> x.kinds(1, 0, 1, 1), 4);
        s.asked("so by another a he takes nothing", untold, x -> x.kinds(1, 0, 0, 1), 251);
        Sentence.Scene told = () -> {
            SeenInOrderOfAge x = row("2", Due.LOOKER, 2);
            x.likes(0, 2, true);
            return x;
        };
        s.asked("his a is told", told, x -> x.kinds(1, 0, 1, 1), 255);
        s.asked("so by every a he takes it", told, x -> x.kinds(1, 0, 0, 1), 0);
    }

    private static SeenInOrderOfAge coming(SeenInOrderOfAge x, int... comes) {
        for (int i = 0; i < comes.length; i++) {
            x.tell(i, 0, comes[i]);
        }
        return x;
    }

    private static void oddsCut() {
        Sentence s = Sentence.of(27, "if each comes by COMES of 12 ways: of 1,000,000 (cut)");
        int[] left = {1000000, 916666, 833333, 750000, 666666, 583333, 500000, 416666, 333333, 250000, 166666, 83333, 0};
        for (int comes = 0; comes <= 12; comes++) {
            int of = comes;
            s.asked("COMES " + comes, () -> coming(row("1", Due.LOOKER, 1), of), x -> x.odds(0), left[comes]);
        }
        Sentence.Scene rarely = () -> coming(row("1", Due.LOOKER, 1, 1, 1, 1, 1, 1, 1, 1), 1, 1, 1, 1, 1, 1, 1, 1);
        // 11 times 11 .. (eight of them), of 12 times 12 ..: 214358881 of 429981696
        s.asked("eight who come rarely", rarely, x -> x.odds(0), 498530);
        Sentence.Scene mostly = () -> coming(row("1", Due.LOOKER, 1, 1, 1, 1, 1, 1, 1, 1), 11, 11, 11, 11, 11, 11, 11, 11);
        s.asked("eight who come mostly", mostly, x -> x.odds(0), 0);
        Sentence.Scene five = () -> coming(row("1", Due.LOOKER, 1, 1, 1, 1, 1), 11, 11, 11, 11, 11);
        s.asked("five who come mostly: 1 of 248832", five, x -> x.odds(0), 4);
    }

    private static void oddsOfNever() {
        Sentence s = Sentence.of(27, "ODDS that a PLACE's THING is left");
        Sentence.Scene scene = () -> coming(row("12.........3", Due.LOOKER, 1, 1, 2), 0, 12, 12);
        s.asked("one always comes", scene, x -> x.odds(0), 0);
        s.asked("another always comes", scene, x -> x.odds(1), 0);
        s.asked("nobody wants it", scene, x -> x.odds(11), 1000000);
        s.asked("nobody is there", Scenes::nobody, x -> x.odds(0), 1000000);
        s.asked("all never come", () -> coming(row("1", Due.LOOKER, 1, 1), 0, 0), x -> x.odds(0), 1000000);
    }

    private static void likelyIfHeComes() {
        Sentence s = Sentence.of(28, "how likely one, if he comes, takes a THING of his a, others by COMES");
        for (int own : new int[] {0, 1, 6, 11, 12}) {
            Sentence.Scene scene = () -> coming(row("1", Due.LOOKER, 1, 1), 3, own);
            s.asked("his own COMES " + own, scene, x -> x.likely(1), 750000);
            s.asked("the other's, " + own, scene, x -> x.likely(0), 1000000);
        }
        s.asked("the only one", () -> coming(row("1", Due.LOOKER, 1), 0), x -> x.likely(0), 1000000);
        s.asked("the only one, no THING", () -> coming(row("", Due.LOOKER, 1), 12), x -> x.likely(0), 0);
        s.asked("the other always comes", () -> coming(row("1", Due.LOOKER, 1, 1), 12, 12), x -> x.likely(1), 0);
        s.asked("the other never comes", () -> coming(row("1", Due.LOOKER, 1, 1), 0, 0), x -> x.likely(1), 1000000);
        s.asked("what he takes isn't his a", () -> {
            SeenInOrderOfAge x = Due.window("2");
            Due.looker(x, Due.LOOKER, 1, 1, "2");
            return x;
        }, x -> x.likely(0), 0);
    }

    private static void likelyCut() {
        Sentence s = Sentence.of(28, "LIKELY: of 1,000,000 (cut)");
        int[] want = {1000000, 916666, 833333, 750000, 666666, 583333, 500000, 416666, 333333, 250000, 166666, 83333, 0};
        for (int comes = 0; comes <= 12; comes++) {
            int of = comes;
            s.asked("the other's COMES " + comes, () -> coming(row("1", Due.LOOKER, 1, 1), of, 5), x -> x.likely(1), want[comes]);
        }
        Sentence.Scene eight = () -> coming(row("1", Due.LOOKER, 1, 1, 1, 1, 1, 1, 1, 1), 1, 1, 1, 1, 1, 1, 1, 12);
        // 11 times 11 .. (seven of them), of 12 times 12 ..: 19487171 of 35831808
        s.asked("behind seven", eight, x -> x.likely(7), 543851);
    }

    private static void gladOddsAtLeast() {
        Sentence s = Sentence.of(29, "Of 1,000,000 (cut), how likely m (0 to 8) at least of those who come are GLAD, each by COMES.");
        Sentence.Scene eight = () -> row("11111111", Due.LOOKER, 1, 1, 1, 1, 1, 1, 1, 1);
        int[] want = {1000000, 996093, 964843, 855468, 636718, 363281, 144531, 35156, 3906};
        for (int m = 0; m <= 8; m++) {
            int least = m;
            s.asked("of eight, " + m, eight, x -> x.gladOdds(least), want[m]);
            s.asked("of nobody, " + m, Scenes::bare, x -> x.gladOdds(least), m == 0 ? 1000000 : 0);
            s.asked("of all for sure, " + m, () -> coming(eight.make(), 12, 12, 12, 12, 12, 12, 12, 12), x -> x.gladOdds(least), 1000000);
            s.asked("of one, " + m, () -> coming(row("1", Due.LOOKER, 1), 1), x -> x.gladOdds(least), m == 0 ? 1000000 : m == 1 ? 83333 : 0);
        }
        s.asked("who never comes", () -> coming(row("1", Due.LOOKER, 1), 0), x -> x.gladOdds(1), 0);
        s.asked("two for one THING", () -> coming(row("1", Due.LOOKER, 1, 1), 12, 12), x -> x.gladOdds(2), 0);
    }

    private static void meanCut() {
        Sentence s = Sentence.of(30, "1000 times how many THINGS are left on the mean (cut), each coming by COMES.");
        int[] left = {1000, 916, 833, 750, 666, 583, 500, 416, 333, 250, 166, 83, 0};
        for (int comes = 0; comes <= 12; comes++) {
            int of = comes;
            s.asked("COMES " + comes, () -> coming(row("1", Due.LOOKER, 1), of), x -> x.meanLeft(), left[comes]);
        }
        s.asked("twelve", () -> Due.window("000000000000"), x -> x.meanLeft(), 12000);
        s.asked("twelve, nobody comes", () -> coming(row("000000000000", Due.GREEDY, 0, 0), 0, 0), x -> x.meanLeft(), 12000);
        s.asked("twelve, one takes all", () -> coming(row("000000000000", Due.GREEDY, 0, 0), 0, 12), x -> x.meanLeft(), 0);
        s.asked("none", () -> row("", Due.GREEDY, 0), x -> x.meanLeft(), 0);
        s.asked("one of twelve takes all", () -> coming(row("000000000000", Due.GREEDY, 0), 1), x -> x.meanLeft(), 11000);
    }

    private static void howManyOfASort() {
        Sentence s = Sentence.of(31, "how many LOOKERS LIKE it, a counting, too (1), have it as a (2)");
        SeenInOrderOfAge x = Due.window("777777777770");
        s.is("THINGS", x.sorts(7, 0), 11);
        s.is("one THING", x.sorts(0, 0), 1);
        s.is("no THING", x.sorts(3, 0), 0);
        s.is("nobody LIKES it", x.sorts(7, 1), 0);
        s.is("nobody has it as a", x.sorts(7, 2), 0);
        for (int i = 0; i < 8; i++) {
            Due.looker(x, 0, i < 4 ? 7 : 0, 0, "7");
        }
        s.is("all LIKE it, a's once", x.sorts(7, 1), 8);
        s.is("four have it as a", x.sorts(7, 2), 4);
        s.is("four LIKE it by a", x.sorts(0, 1), 4);
        x.likes(0, 7, false);
        x.likes(7, 7, false);
        s.is("who LIKES it no more, but by a", x.sorts(7, 1), 7);
    }

    private static void rareAndMost() {
        Sentence s = Sentence.of(32, "The SORT in the WINDOW with fewest THINGS (what 0), most (1), of several the least.");
        String[] windows = {"7...........", "777777777777", "76543210....", "7654321.....", "77766655544.", "112233......", "0..........7", "100.........", "011........."};
        int[] fewest = {7, 7, 0, 1, 4, 1, 0, 1, 0};
        int[] most = {7, 7, 0, 1, 5, 1, 0, 0, 1};
        for (int i = 0; i < windows.length; i++) {
            String window = windows[i];
            s.asked("fewest of " + window, () -> Due.window(window), x -> x.rare(0), fewest[i]);
            s.asked("most of " + window, () -> Due.window(window), x -> x.rare(1), most[i]);
        }
    }

    private static void whoIsFirst() {
        Sentence s = Sentence.of(33, "Who is youngest (what 0), eldest (1), has most THINGS (2), of several the first.");
        SeenInOrderOfAge x = Scenes.bare();
        x.looker(Due.GREEDY, 0, 50);
        for (int what = 0; what < 3; what++) {
            s.is("the only one, " + what, x.first(what), 0);
        }
        for (int i = 1; i < 8; i++) {
            x.looker(Due.GREEDY, i, 50);
        }
        for (int what = 0; what < 3; what++) {
            s.is("all alike, " + what, x.first(what), 0);
        }
        x.tell(7, 1, 0);
        x.tell(6, 1, 99);
        s.is("the youngest is the last", x.first(0), 7);
        s.is("the eldest is the last but one", x.first(1), 6);
        x.tell(3, 1, 0);
        x.tell(4, 1, 99);
        s.is("two of 0", x.first(0), 3);
        s.is("two of 99", x.first(1), 4);
        x.place(0, 7);
        x.evening(128);
        s.is("the last has one", x.first(2), 7);
        x.place(0, 5);
        x.evening(32);
        s.is("two have one", x.first(2), 5);
        x.place(0, 7);
        x.evening(128);
        s.is("the last has two", x.first(2), 7);
    }

    private static void eachOthersAge() {
        Sentence s = Sentence.of(38, "How many are GLAD, if all come and two have each other's AGE.");
        Sentence.Scene scene = () -> {
            SeenInOrderOfAge x = Due.window("12");
            Due.looker(x, Due.CHILD, 2, 0, "1");
            Due.looker(x, Due.LOOKER, 1, 99, "");
            return x;
        };
        s.asked("as it is", scene, x -> x.glad(3, 0), 1);
        s.asked("0 and 99", scene, x -> x.exchanged(0, 1), 2);
        s.asked("99 and 0", scene, x -> x.exchanged(1, 0), 2);
        s.asked("the same AGE stays", () -> {
            SeenInOrderOfAge x = scene.make();
            x.tell(1, 1, 0);
            return x;
        }, x -> x.exchanged(1, 0), 1);
        s.asked("the same AGE by numbers", () -> {
            SeenInOrderOfAge x = Due.window("12");
            Due.looker(x, Due.LOOKER, 1, 40, "");
            Due.looker(x, Due.CHILD, 2, 40, "1");
            return x;
        }, x -> x.exchanged(1, 0), 2);
    }

    private static void bestPair() {
        Sentence s = Sentence.of(39, "The two for whom that is most, of several the first by numbers: 10 times the lesser and the other; NONE: fewer than two.");
        s.asked("nobody", Scenes::bare, x -> x.bestPair(), Due.NONE);
        s.asked("one", () -> row("1", Due.LOOKER, 1), x -> x.bestPair(), Due.NONE);
        s.asked("two", () -> row("", Due.LOOKER, 1, 1), x -> x.bestPair(), 1);
        s.asked("all alike", () -> row("1", Due.LOOKER, 1, 1, 1, 1, 1, 1, 1, 1), x -> x.bestPair(), 1);
        Sentence.Scene last = () -> {
            SeenInOrderOfAge x = row("12", Due.LOOKER, 5, 5, 5, 5, 5, 5);
            Due.looker(x, Due.CHILD, 2, 9, "1");
            Due.looker(x, Due.LOOKER, 1, 30, "");
            return x;
        };
        s.asked("the last two", last, x -> x.bestPair(), 67);
        s.asked("the second by another", () -> {
            SeenInOrderOfAge x = last.make();
            x.tell(3, 1, 31);
            return x;
        }, x -> x.bestPair(), 36);
        s.asked("the first of another", () -> {
            SeenInOrderOfAge x = last.make();
            x.tell(4, 1, 8);
            return x;
        }, x -> x.bestPair(), 47);
    }

    private static void greatestAge() {
        Sentence s = Sentence.of(40, "The greatest AGE (0 to 99) at which one would be GLAD, if all come; NONE: at none.");
        s.asked("the only one", () -> row("1", Due.LOOKER, 1), x -> x.oldest(0), 99);
        s.asked("nothing is there", () -> row("", Due.LOOKER, 1), x -> x.oldest(0), Due.NONE);
        for (int age : new int[] {1, 2, 50, 98, 99}) {
            Sentence.Scene scene = () -> {
                SeenInOrderOfAge x = row("1", Due.LOOKER, 1, 1);
                x.tell(0, 1, age);
                x.tell(1, 1, age);
                return x;
            };
            s.asked("the first by number, " + age, scene, x -> x.oldest(0), age);
            s.asked("the other, " + age, scene, x -> x.oldest(1), age - 1);
        }
        s.asked("who is GLAD only behind another", () -> {
            SeenInOrderOfAge x = Due.window("112");
            x.looker(Due.CHILD, 1, 60);
            Due.looker(x, Due.SHY, 2, 2, "1");
            return x;
        }, x -> x.oldest(1), 99);
        s.asked("who is GLAD ahead of nobody", () -> row("0", Due.GIVER, 0), x -> x.oldest(0), Due.NONE);
    }

    private static void ageByNumbers() {
        Sentence s = Sentence.of(40, "NONE: at none.");
        Sentence.Scene scene = () -> {
            SeenInOrderOfAge x = row("1", Due.LOOKER, 1, 1);
            x.tell(0, 1, 0);
            x.tell(1, 1, 0);
            return x;
        };
        s.asked("at 0 the first by number", scene, x -> x.oldest(0), 0);
        s.asked("at none the other", scene, x -> x.oldest(1), Due.NONE);
        Sentence.Scene always = () -> {
            SeenInOrderOfAge x = row("1", Due.LOOKER, 1, 1, 1, 1, 1, 1, 1, 1);
            x.tell(3, 1, 7);
            return x;
        };
        s.asked("ahead of seven", always, x -> x.oldest(7), 6);
        s.asked("ahead of seven by number", always, x -> x.oldest(0), 7);
        s.asked("the youngest of them", always, x -> x.oldest(3), 9);
    }
}
