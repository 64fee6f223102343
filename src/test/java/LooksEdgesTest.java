/** The edges of "2. AN EVENING", and of promises 18 to 21, 34 to 37, 41 and 42, that ask for one. */
public final class LooksEdgesTest {
    public static void main(String[] args) {
        youngestFirst();
        byNumbers();
        setsThatCome();
        firstWithHisA();
        firstHeLikes();
        byPlacesNotSorts();
        nothing();
        onceMore();
        allWithHisA();
        elseAsAChild();
        lastHeLikes();
        giver();
        giverBehindOthers();
        shyMost();
        shyLeast();
        shyFirstPlace();
        ofWhatIsThere();
        gone();
        left();
        taken();
        gladAndEmpty();
        without();
        twice();
        unlike();
        Due.end();
    }

    /** One who comes alone takes the places that are told, in hexadecimal; what is left, who is empty or glad. */
    private static void takes(Sentence s, int kind, int a, String likes, String window, String places) {
        Sentence.Scene scene = () -> {
            SeenInOrderOfAge x = Due.window(window);
            Due.looker(x, kind, a, 50, likes);
            return x;
        };
        int want = 0;
        boolean isGlad = false;
        for (int i = 0; i < places.length(); i++) {
            int place = Character.digit(places.charAt(i), 16);
            want |= 1 << place;
            isGlad |= window.charAt(place) == '0' + a;
        }
        int taken = want;
        String what = "KIND " + kind + ", a " + a + ", LIKES '" + likes + "', of " + window;
        s.asked(what, scene, x -> x.taken(1, 0), taken);
        s.asked(what + ", LEFT", scene, x -> x.left(1), scene.make().places() - taken);
        s.asked(what + ", GLAD", scene, x -> x.gladOnes(1), isGlad ? 1 : 0);
        s.asked(what + ", EMPTY", scene, x -> x.empty(1), taken == 0 ? 1 : 0);
        s.asked(what + ", by KINDS", scene, x -> x.kinds(1, 0, taken, 0) >> kind & 1, 1);
        SeenInOrderOfAge x = scene.make();
        s.is(what + ", in truth", x.evening(1), places.length());
        s.is(what + ", what is there then", x.places(), scene.make().places() - taken);
    }

    private static void youngestFirst() {
        Sentence s = Sentence.of(21, "they look in ORDER: by AGE, the youngest first");
        SeenInOrderOfAge x = Scenes.bare();
        int[] ages = {99, 98, 1, 0, 50};
        for (int age : ages) {
            x.looker(0, 0, age);
        }
        int[] want = {3, 2, 4, 1, 0};
        for (int i = 0; i < 5; i++) {
            s.is("the " + i + "th", x.order(31, i), want[i]);
        }
        s.is("none behind the eldest", x.order(31, 5), Due.BAD);
        x.tell(0, 1, 0);
        s.is("the eldest becomes as young as the youngest", x.order(31, 0), 0);
        x.tell(3, 1, 99);
        s.is("the youngest becomes the eldest", x.order(31, 4), 3);
        s.is("the second then", x.order(31, 1), 2);
    }

    private static void byNumbers() {
        Sentence s = Sentence.of(21, "by AGE, the youngest first, of several by numbers");
        for (int age : new int[] {0, 99}) {
            SeenInOrderOfAge x = Scenes.bare();
            for (int i = 0; i < 8; i++) {
                x.looker(0, 0, age);
            }
            for (int i = 0; i < 8; i++) {
                s.is("all of " + age + ", the " + i + "th", x.order(255, i), i);
            }
            x.tell(4, 1, 50);
            x.tell(4, 1, age);
            s.is("told another AGE and back", x.order(255, 4), 4);
            s.is("of a set", x.order(0b10100000, 1), 7);
        }
        SeenInOrderOfAge y = Due.window("1");
        y.looker(Due.LOOKER, 1, 30);
        y.looker(Due.LOOKER, 1, 30);
        s.is("the first by number takes", y.taken(3, 0), 1);
        s.is("the other doesn't", y.taken(3, 1), 0);
    }

    private static void setsThatCome() {
        Sentence s = Sentence.of(18, "A set of LOOKERS (bits) comes");
        SeenInOrderOfAge x = Scenes.eight();
        for (int i = 0; i < 8; i++) {
            x.place(i, i);
        }
        for (int i = 0; i < 8; i++) {
            int takes = i == 4 ? 0 : 1 << i;
            s.is("only " + i, x.left(1 << i), 255 - takes);
            s.is("only " + i + " takes", x.taken(1 << i, i), takes);
            s.is("all but " + i, x.left(255 - (1 << i)), takes | 1 << 4);
        }
        s.is("nobody", x.left(0), 255);
        s.is("all", x.left(255), 1 << 4);
        s.is("who isn't in it takes nothing", x.taken(127, 7), 0);
        s.is("who is in it alone", x.taken(128, 7), 128);
    }

    private static void firstWithHisA() {
        Sentence s = Sentence.of(19, "LOOKER: the first PLACE with his a");
        takes(s, Due.LOOKER, 0, "", "0...........", "0");
        takes(s, Due.LOOKER, 7, "", "...........7", "b");
        takes(s, Due.LOOKER, 7, "", "777777777777", "0");
        takes(s, Due.LOOKER, 7, "0123456", "01234567....", "7");
        takes(s, Due.LOOKER, 2, "1", "11111111112.", "a");
        takes(s, Due.LOOKER, 2, "2", "..1..2..2...", "5");
    }

    private static void firstHeLikes() {
        Sentence s = Sentence.of(19, "if there is none, the first with a SORT he LIKES");
        takes(s, Due.LOOKER, 2, "0", "0...........", "0");
        takes(s, Due.LOOKER, 2, "7", "...........7", "b");
        takes(s, Due.LOOKER, 2, "0134567", "01345670....", "0");
        takes(s, Due.LOOKER, 2, "5", "013455670...", "4");
    }

    private static void byPlacesNotSorts() {
        Sentence s = Sentence.of(19, "the first with a SORT he LIKES");
        takes(s, Due.LOOKER, 2, "17", "...7..1.....", "3");
        takes(s, Due.LOOKER, 2, "17", "...1..7.....", "3");
        takes(s, Due.CHILD, 2, "17", "...7..1.....", "36");
        takes(s, Due.CHILD, 2, "17", "...7..71....", "36");
    }

    private static void nothing() {
        Sentence s = Sentence.of(19, "none: nothing.");
        for (int kind = 0; kind < 6; kind++) {
            takes(s, kind, 2, "", "............", "");
            takes(s, kind, 2, "01345670", "............", "");
            takes(s, kind, 2, "", "013456701345", "");
            takes(s, kind, 0, "7", "123456123456", "");
        }
    }

    private static void onceMore() {
        Sentence s = Sentence.of(19, "CHILD: likewise, and then once more.");
        takes(s, Due.CHILD, 2, "", "2..........2", "0b");
        takes(s, Due.CHILD, 2, "", "222222222222", "01");
        takes(s, Due.CHILD, 2, "", "...........2", "b");
        takes(s, Due.CHILD, 2, "", "2...........", "0");
        takes(s, Due.CHILD, 2, "1", "1..........2", "0b");
        takes(s, Due.CHILD, 2, "1", "11.........2", "0b");
        takes(s, Due.CHILD, 2, "1", "1.........22", "ab");
        takes(s, Due.CHILD, 2, "1", "2..........1", "0b");
        takes(s, Due.CHILD, 2, "1", "..........11", "ab");
        takes(s, Due.CHILD, 2, "1", "...........1", "b");
        takes(s, Due.CHILD, 2, "2", "2..........1", "0");
    }

    private static void allWithHisA() {
        Sentence s = Sentence.of(19, "GREEDY: all PLACES with his a, if there are any");
        takes(s, Due.GREEDY, 2, "", "222222222222", "0123456789ab");
        takes(s, Due.GREEDY, 2, "", "2..........2", "0b");
        takes(s, Due.GREEDY, 2, "1", "1112111....1", "3");
        takes(s, Due.GREEDY, 2, "1", "1.........2.", "a");
        takes(s, Due.GREEDY, 0, "1", "101010101010", "13579b");
    }

    private static void elseAsAChild() {
        Sentence s = Sentence.of(19, "if there are any, else as a CHILD");
        takes(s, Due.GREEDY, 2, "1", "1...........", "0");
        takes(s, Due.GREEDY, 2, "1", "1..........1", "0b");
        takes(s, Due.GREEDY, 2, "1", "111111111111", "01");
        takes(s, Due.GREEDY, 2, "13", "3..1..3.....", "03");
        takes(s, Due.GREEDY, 2, "2", "3..1..3.....", "");
    }

    private static void lastHeLikes() {
        Sentence s = Sentence.of(19, "OLD: the last PLACE with a SORT he LIKES (a, too).");
        takes(s, Due.OLD, 2, "", "2...........", "0");
        takes(s, Due.OLD, 2, "", "2..........2", "b");
        takes(s, Due.OLD, 2, "1", "2..........1", "b");
        takes(s, Due.OLD, 2, "1", "1..........2", "b");
        takes(s, Due.OLD, 2, "1", "12.........3", "1");
        takes(s, Due.OLD, 2, "1", "21.........3", "1");
        takes(s, Due.OLD, 2, "", "21.........3", "0");
        takes(s, Due.OLD, 2, "0134567", "222222222222", "b");
    }

    private static void giver() {
        Sentence s = Sentence.of(19, "GIVER: as OLD, but nothing, if that is the only THING of its SORT that is left.");
        takes(s, Due.GIVER, 2, "", "...........2", "");
        takes(s, Due.GIVER, 2, "", "2...........", "");
        takes(s, Due.GIVER, 2, "", "2..........2", "b");
        takes(s, Due.GIVER, 2, "", "222222222222", "b");
        takes(s, Due.GIVER, 2, "1", "22.........1", "");
        takes(s, Due.GIVER, 2, "1", "1..........1", "b");
        takes(s, Due.GIVER, 2, "1", "11.........2", "");
        takes(s, Due.GIVER, 2, "1", "12.........1", "b");
        takes(s, Due.GIVER, 2, "", "33322.......", "4");
        takes(s, Due.GIVER, 2, "", "3332.......3", "");
    }

    private static void giverBehindOthers() {
        Sentence s = Sentence.of(19, "the only THING of its SORT that is left");
        SeenInOrderOfAge x = Due.window("22..........");
        x.looker(Due.LOOKER, 2, 10);
        x.looker(Due.GIVER, 2, 20);
        s.is("two are left", x.taken(2, 1), 2);
        s.is("another took one", x.taken(3, 1), 0);
        s.is("what is left then", x.left(3), 2);
        x.tell(0, 1, 30);
        s.is("another who is elder", x.taken(3, 1), 2);
        s.is("finds the other", x.taken(3, 0), 1);
        s.is("judged: he takes it", x.row(0, 0, 4) + x.set(0, 0, 1) + x.set(0, 1, 1) + x.set(0, 2, 0) + x.judge(0, 2), 3);
    }

    private static void shyMost() {
        Sentence s = Sentence.of(19, "SHY: of SORTS he LIKES (a, too) that of which most THINGS are there");
        takes(s, Due.SHY, 2, "1", "2.........11", "a");
        takes(s, Due.SHY, 2, "1", "1.........22", "a");
        takes(s, Due.SHY, 2, "", "1111.......2", "b");
        takes(s, Due.SHY, 2, "17", "11.777.22...", "3");
        takes(s, Due.SHY, 2, "", "222222222222", "0");
        Sentence there = Sentence.of(19, "that of which most THINGS are there");
        SeenInOrderOfAge x = Due.window("111.22......");
        x.looker(Due.CHILD, 1, 10);
        Due.looker(x, Due.SHY, 2, 20, "1");
        there.is("alone", x.taken(2, 1), 1);
        there.is("behind one who took two", x.taken(3, 1), 16);
        x.tell(0, 1, 21);
        there.is("ahead of him", x.taken(3, 1), 1);
    }

    private static void shyLeast() {
        Sentence s = Sentence.of(19, "that of which most THINGS are there, of several the least");
        takes(s, Due.SHY, 2, "1", "2..........1", "b");
        takes(s, Due.SHY, 1, "2", "2..........1", "b");
        takes(s, Due.SHY, 7, "0", "77.......00.", "9");
        takes(s, Due.SHY, 0, "7", "77.......00.", "9");
        takes(s, Due.SHY, 7, "0123456", "76543210....", "7");
        takes(s, Due.SHY, 7, "123456", "76543210....", "6");
        takes(s, Due.SHY, 2, "5", "5522......0.", "2");
    }

    private static void shyFirstPlace() {
        Sentence s = Sentence.of(19, "of several the least: the first PLACE with it");
        takes(s, Due.SHY, 2, "", "2..........2", "0");
        takes(s, Due.SHY, 2, "", "..........22", "a");
        takes(s, Due.SHY, 2, "1", "1.2.2.......", "2");
    }

    private static void ofWhatIsThere() {
        Sentence s = Sentence.of(19, "Each takes, of what is in the PLACES then:");
        SeenInOrderOfAge x = Due.window("12");
        Due.looker(x, Due.LOOKER, 1, 99, "2");
        Due.looker(x, Due.LOOKER, 1, 98, "2");
        Due.looker(x, Due.LOOKER, 1, 0, "");
        s.is("the youngest his a", x.taken(7, 2), 1);
        s.is("another what he LIKES", x.taken(7, 1), 2);
        s.is("the eldest nothing", x.taken(7, 0), 0);
        s.is("the eldest without the other", x.taken(5, 0), 2);
        s.is("the eldest without both", x.taken(1, 0), 1);
    }

    private static void gone() {
        Sentence s = Sentence.of(18, "What is taken is gone from its PLACE");
        SeenInOrderOfAge x = Due.window("222222222222");
        for (int i = 0; i < 8; i++) {
            x.looker(Due.LOOKER, 2, i);
        }
        for (int i = 0; i < 8; i++) {
            s.is("the " + i + "th takes the next", x.taken(255, i), 1 << i);
        }
        s.is("four are left", x.left(255), 0b111100000000);
        x.place(11, Due.NONE);
        for (int i = 1; i < 8; i++) {
            x.place(i, Due.NONE);
        }
        s.is("the second of what is there", x.taken(255, 1), 1 << 8);
        s.is("the fourth finds none", x.taken(255, 4), 0);
        s.is("GLAD", x.glad(255, 0), 4);
        s.is("EMPTY", x.glad(255, 1), 4);
    }

    private static void left() {
        Sentence s = Sentence.of(18, "LEFT: PLACES (bits) with a THING behind all of them.");
        SeenInOrderOfAge x = Due.window("222222222222");
        x.looker(Due.GREEDY, 2, 0);
        x.looker(Due.LOOKER, 3, 0);
        s.is("all", x.left(0), 4095);
        s.is("all, if nobody wants them", x.left(2), 4095);
        s.is("none", x.left(1), 0);
        x.place(11, 3);
        s.is("the last", x.left(1), 2048);
        s.is("all but the last", x.left(2), 2047);
        s.is("none then", x.left(3), 0);
        s.is("none of no THINGS", Scenes.bare().left(0), 0);
        Sentence places = Sentence.of(34, "PLACES (bits) with a THING.");
        SeenInOrderOfAge y = Scenes.bare();
        for (int i = 0; i < 12; i++) {
            y.place(i, i % 8);
            places.is("up to " + i, y.places(), (1 << i + 1) - 1);
            places.is("how many", y.status(1), i + 1);
        }
        for (int i = 0; i < 12; i++) {
            y.place(i, Due.NONE);
            places.is("from behind " + i, y.places(), 4096 - (1 << i + 1));
        }
        y.place(5, 0);
        y.evening(0);
        places.is("SORT 0 is a THING", y.places(), 32);
    }

    private static void taken() {
        Sentence s = Sentence.of(19, "TAKEN by one, if a set comes: PLACES (bits).");
        SeenInOrderOfAge x = Due.window("22");
        x.looker(Due.LOOKER, 2, 0);
        x.looker(Due.LOOKER, 2, 1);
        s.is("he is", x.taken(1, 0), 1);
        s.is("he isn't", x.taken(2, 0), 0);
        s.is("nobody is", x.taken(0, 0), 0);
        s.is("both are", x.taken(3, 1), 2);
        s.is("what was asked ahead is forgotten", x.taken(1, 1), 0);
    }

    private static void gladAndEmpty() {
        Sentence s = Sentence.of(20, "GLAD of a set: how many of them take a THING of their a; EMPTY: how many take nothing.");
        SeenInOrderOfAge x = Due.window("1234");
        Due.looker(x, Due.LOOKER, 7, 1, "1");
        Due.looker(x, Due.CHILD, 2, 2, "3");
        Due.looker(x, Due.OLD, 3, 3, "4");
        Due.looker(x, Due.LOOKER, 1, 4, "");
        s.is("GLAD", x.glad(15, 0), 1);
        s.is("who", x.gladOnes(15), 2);
        s.is("EMPTY", x.glad(15, 1), 1);
        s.is("who takes nothing", x.empty(15), 8);
        s.is("GLAD without the first", x.gladOnes(14), 10);
        s.is("EMPTY without the first", x.empty(14), 0);
        s.is("GLAD of nobody", x.glad(0, 0), 0);
        s.is("EMPTY of nobody", x.glad(0, 1), 0);
        s.is("no bits of nobody", x.gladOnes(0) + x.empty(0), 0);
        for (int i = 0; i < 4; i++) {
            x.looker(Due.LOOKER, 6, 50);
        }
        s.is("EMPTY of eight", x.empty(255), 0b11111000);
        s.is("five of eight", x.glad(255, 1), 5);
        x.place(11, 6);
        s.is("GLAD of eight", x.gladOnes(255), 0b00010010);
    }

    private static void without() {
        Sentence s = Sentence.of(37, "How many of all the others are GLAD, if all come but one.");
        SeenInOrderOfAge x = Due.window("1");
        x.looker(Due.LOOKER, 1, 5);
        s.is("the only one", x.without(0), 0);
        x.looker(Due.LOOKER, 1, 6);
        s.is("another takes it then", x.without(0), 1);
        s.is("without the other", x.without(1), 1);
        for (int i = 2; i < 8; i++) {
            x.looker(Due.LOOKER, 1, 6);
            x.place(i, 1);
        }
        s.is("without the last of eight", x.without(7), 7);
        x.looker(0, 0, 0);
        s.is("without the first of eight", x.without(0), 7);
        x.place(7, Due.NONE);
        s.is("there are six", x.without(0), 6);
    }

    private static void twice() {
        Sentence s = Sentence.of(41, "LEFT, if a set comes, and behind it another (nothing set out between).");
        SeenInOrderOfAge x = Due.window("222222222222");
        x.looker(Due.CHILD, 2, 0);
        x.looker(Due.LOOKER, 2, 1);
        s.is("nobody, nobody", x.twice(0, 0), 4095);
        s.is("the child twice", x.twice(1, 1), 4095 - 15);
        s.is("all twice", x.twice(3, 3), 4095 - 63);
        s.is("the child, nobody", x.twice(1, 0), 4095 - 3);
        s.is("nobody, the child", x.twice(0, 1), 4095 - 3);
        s.is("one, then the other", x.twice(2, 1), 4095 - 7);
        s.is("nothing is there", Scenes.bare().twice(0, 0), 0);
        SeenInOrderOfAge y = Due.window("22");
        y.looker(Due.GIVER, 2, 0);
        s.is("the GIVER takes one", y.twice(1, 0), 1);
        s.is("the only one then he doesn't", y.twice(1, 1), 1);
    }

    private static void unlike() {
        Sentence s = Sentence.of(42, "How many unlike SORTS are LEFT, if a set comes.");
        SeenInOrderOfAge x = Due.window("01234567....");
        s.is("all eight", x.unlike(0), 8);
        x.place(8, 0);
        s.is("eight, one of them twice", x.unlike(0), 8);
        x.looker(Due.LOOKER, 0, 0);
        s.is("one of two goes", x.unlike(1), 8);
        x.looker(Due.LOOKER, 7, 0);
        s.is("the only one goes", x.unlike(3), 7);
        s.is("none", Scenes.bare().unlike(0), 0);
        SeenInOrderOfAge y = Due.window("555555555555");
        s.is("one", y.unlike(0), 1);
        y.looker(Due.GREEDY, 5, 5);
        s.is("nothing is left", y.unlike(1), 0);
    }
}
