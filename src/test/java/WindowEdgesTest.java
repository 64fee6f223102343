/** The edges of "1. THE WINDOW", and of promises 9 to 12, 16 and 17 that tell of it. */
public final class WindowEdgesTest {
    public static void main(String[] args) {
        placesAtFirst();
        eachPlaceEachSort();
        kinds();
        atFirst();
        aAlwaysCounts();
        likesAreBits();
        whetherHeDid();
        comesOfTwelve();
        has();
        shine();
        tellsApart();
        Due.end();
    }

    private static void placesAtFirst() {
        Sentence s = Sentence.of(9, "PLACES 0 to 11, each with a THING of a SORT (0 to 7), or with nothing (at first).");
        SeenInOrderOfAge x = Scenes.bare();
        for (int place = 0; place < 12; place++) {
            s.is("nothing at first", x.sortAt(place), Due.NONE);
            s.is("nothing was there", x.place(place, 0), Due.NONE);
            s.is("SORT 0 is there", x.sortAt(place), 0);
            s.is("SORT 0 was there", x.place(place, 7), 0);
            s.is("SORT 7 was there", x.place(place, Due.NONE), 7);
            s.is("nothing is there", x.sortAt(place), Due.NONE);
        }
        s.refused("no PLACE 12", Scenes::dressed, y -> y.place(12, 0), Due.BAD);
        s.refused("no SORT 8", Scenes::dressed, y -> y.place(11, 8), Due.BAD);
        s.refused("no SORT -2", Scenes::dressed, y -> y.place(11, -2), Due.BAD);
    }

    private static void eachPlaceEachSort() {
        Sentence s = Sentence.of(9, "A PLACE has a THING of a SORT, or nothing (sort NONE): which SORT was there (NONE).");
        for (int place = 0; place < 12; place++) {
            for (int sort = 0; sort < 8; sort++) {
                SeenInOrderOfAge x = Due.window("765432107654");
                int was = x.sortAt(place);
                s.is("which SORT was there", x.place(place, sort), was);
                for (int other = 0; other < 12; other++) {
                    s.is("PLACE " + other, x.sortAt(other), other == place ? sort : Math.floorMod(7 - other, 8));
                }
                s.is("how many of that SORT", x.sorts(sort, 0), count(x, sort));
                s.is("how many of what was there", x.sorts(was, 0), count(x, was));
                s.is("the same again", x.place(place, sort), sort);
                s.is("as many of that SORT", x.sorts(sort, 0), count(x, sort));
            }
        }
    }

    private static int count(SeenInOrderOfAge x, int sort) {
        int number = 0;
        for (int place = 0; place < 12; place++) {
            number += x.sortAt(place) == sort ? 1 : 0;
        }
        return number;
    }

    private static void kinds() {
        Sentence s = Sentence.of(8, "each of a KIND: 0 LOOKER; 1 CHILD, 2 OLD, 5 SHY, each under LOOKER; 3 GREEDY, under CHILD; 4 GIVER, under OLD; ");
        String[] under = {"0", "01", "02", "013", "024", "05"};
        for (int kind = 0; kind < 6; kind++) {
            SeenInOrderOfAge x = Due.window("11");
            x.looker(kind, 1, 33);
            x.show(0, 0);
            s.is("KIND", x.lookerOf(0, 0), kind);
            for (int as = 0; as < 6; as++) {
                boolean isUnder = under[kind].indexOf('0' + as) >= 0;
                s.is(kind + " as " + as, x.says(0, as) == Due.OTHER ? 0 : 1, isUnder ? 1 : 0);
            }
        }
    }

    private static void atFirst() {
        Sentence s = Sentence.of(10, "a (0 to 7: a SORT), AGE (0 to 99), LIKES (SORTS, bits; a always counts as liked; none besides at first), COMES (0 to 12 of 12; 6 at first), ");
        for (int i = 0; i < 8; i++) {
            SeenInOrderOfAge x = Scenes.bare();
            for (int k = 0; k <= i; k++) {
                s.is("the number", x.looker(k % 6, 7 - k, 99 - k), k);
            }
            int[] want = {i % 6, 7 - i, 99 - i, 0, 6, Due.NONE};
            for (int what = 0; what < 6; what++) {
                s.is("what " + what + " of " + i, x.lookerOf(i, what), want[what]);
            }
            s.is("who LIKE his a", x.sorts(7 - i, 1), 1);
        }
        SeenInOrderOfAge y = Scenes.dressed();
        y.back();
        y.looker(Due.SHY, 5, 5);
        y.likes(3, 1, true);
        y.tell(3, 0, 1);
        y.tell(3, 2, 2);
        y.place(5, 5);
        y.evening(8);
        y.back();
        s.is("another of the number of one who is gone", y.looker(Due.OLD, 6, 6), 3);
        int[] want = {2, 6, 6, 0, 6, Due.NONE};
        for (int what = 0; what < 6; what++) {
            s.is("nothing of the other, " + what, y.lookerOf(3, what), want[what]);
        }
        s.is("nor what he had", y.lookerOf(3, 15), 0);
    }

    private static void aAlwaysCounts() {
        Sentence s = Sentence.of(11, "A LOOKER LIKES a SORT, or doesn't (LIKES; a counts all the same): whether he did (1, 0). BAD.");
        for (int kind = 0; kind < 6; kind++) {
            for (int a : new int[] {0, 7}) {
                SeenInOrderOfAge x = Scenes.bare();
                x.looker(kind, a, 1);
                x.place(0, a);
                x.place(1, a);
                int takes = x.left(1);
                s.is("untold, as told no", x.likes(0, a, false), 0);
                s.is("he takes it", x.left(1) == 3 ? 1 : 0, 0);
                s.is("told yes: he did not", x.likes(0, a, true), 0);
                s.is("told yes again: he did", x.likes(0, a, true), 1);
                s.is("LIKES", x.lookerOf(0, 3), 1 << a);
                s.is("he takes it all the same", x.left(1), takes);
                s.is("told no: he did", x.likes(0, a, false), 1);
                s.is("LIKES none", x.lookerOf(0, 3), 0);
                s.is("he takes it still", x.left(1), takes);
            }
        }
    }

    private static void likesAreBits() {
        Sentence s = Sentence.of(17, "LIKES (3; a not unless told)");
        SeenInOrderOfAge x = Scenes.bare();
        x.looker(Due.LOOKER, 3, 0);
        x.looker(Due.LOOKER, 3, 0);
        int bits = 0;
        for (int sort = 0; sort < 8; sort++) {
            x.likes(0, sort, true);
            bits |= 1 << sort;
            s.is("up to " + sort, x.lookerOf(0, 3), bits);
        }
        for (int sort = 0; sort < 8; sort++) {
            x.likes(0, sort, false);
            bits &= ~(1 << sort);
            s.is("without those up to " + sort, x.lookerOf(0, 3), bits);
        }
        s.is("the other LIKES none", x.lookerOf(1, 3), 0);
    }

    private static void whetherHeDid() {
        Sentence s = Sentence.of(11, "whether he did (1, 0)");
        for (int sort = 0; sort < 8; sort++) {
            SeenInOrderOfAge x = Scenes.bare();
            x.looker(Due.LOOKER, 3, 0);
            s.is("not yet", x.likes(0, sort, false), 0);
            s.is("still not", x.likes(0, sort, true), 0);
            s.is("he did", x.likes(0, sort, true), 1);
            s.is("he did still", x.likes(0, sort, false), 1);
            s.is("no more", x.likes(0, sort, false), 0);
        }
    }

    private static void comesOfTwelve() {
        Sentence s = Sentence.of(12, "COMES (0 to 12 of 12; 6 at first)");
        SeenInOrderOfAge x = Due.window("1");
        x.looker(Due.LOOKER, 1, 0);
        s.is("6 at first", x.odds(0), 500000);
        s.is("what it was", x.tell(0, 0, 0), 6);
        s.is("0 of 12", x.odds(0), 1000000);
        s.is("what it was then", x.tell(0, 0, 12), 0);
        s.is("12 of 12", x.odds(0), 0);
        s.is("what it was at last", x.tell(0, 0, 12), 12);
    }

    private static void has() {
        Sentence s = Sentence.of(17, "HAS (how many THINGS of each SORT; none at first; 99 at most)");
        SeenInOrderOfAge x = Scenes.bare();
        x.looker(Due.GREEDY, 0, 0);
        for (int sort = 0; sort < 8; sort++) {
            s.is("none at first", x.lookerOf(0, 10 + sort), 0);
        }
        for (int sort = 1; sort < 8; sort++) {
            x.likes(0, sort, true);
        }
        for (int sort = 0; sort < 8; sort++) {
            x.place(11, sort);
            x.evening(1);
            s.is("one of " + sort, x.lookerOf(0, 10 + sort), 1);
            s.is("in all", x.status(2), sort + 1);
        }
    }

    private static void shine() {
        Sentence s = Sentence.of(17, "SHINE (a SORT he holds most dear, or NONE; NONE at first).");
        SeenInOrderOfAge x = Scenes.bare();
        x.looker(Due.LOOKER, 5, 0);
        s.is("NONE at first", x.lookerOf(0, 5), Due.NONE);
        for (int sort = 0; sort < 8; sort++) {
            s.is("told", x.tell(0, 2, sort), sort - 1);
            s.is("then", x.lookerOf(0, 5), sort);
            s.is("he brings it", x.next(0), sort);
        }
        s.is("NONE again", x.tell(0, 2, Due.NONE), 7);
        s.is("he brings none", x.next(0), Due.NONE);
        s.is("NONE still", x.tell(0, 2, Due.NONE), Due.NONE);
        s.is("nothing is refused", x.status(12), 0);
    }

    private static void tellsApart() {
        Sentence s = Sentence.of(12, "COMES (what 0), AGE (1), SHINE (2; also NONE) of one becomes v: what it was.");
        SeenInOrderOfAge x = Scenes.dressed();
        x.tell(1, 0, 1);
        x.tell(1, 1, 2);
        x.tell(1, 2, 3);
        int[] first = {1, 1, 9, 4, 6, 1};
        int[] second = {2, 2, 2, 16, 1, 3};
        int[] third = {5, 3, 30, 128, 3, Due.NONE};
        for (int what = 0; what < 6; what++) {
            s.is("of 0, " + what, x.lookerOf(0, what), first[what]);
            s.is("of 1, " + what, x.lookerOf(1, what), second[what]);
            s.is("of 2, " + what, x.lookerOf(2, what), third[what]);
        }
        s.is("who looks first", x.order(7, 0), 1);
    }
}
