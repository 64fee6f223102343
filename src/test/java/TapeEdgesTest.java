/** The edges of what the document says of A WINDOW that is read from THE TAPE (promises 13 to 15). */
public final class TapeEdgesTest {
    public static void main(String[] args) {
        bytesAtMost();
        asLongAsCanBe();
        blanks();
        oneOrMore();
        between();
        place();
        clear();
        looker();
        likes();
        comes();
        shine();
        whoIsThere();
        allOrNothing();
        mayNotBe();
        digits();
        noRoom();
        noByteOfAny();
        words();
        tooEarly();
        tooEarlyByStatement();
        emptyThen();
        Due.end();
    }

    /** One looker of 50, and a THING of sort 3 in each PLACE. */
    private static SeenInOrderOfAge scene() {
        SeenInOrderOfAge x = Due.window("333333333333");
        x.looker(Due.OLD, 2, 50);
        return x;
    }

    /** Reads a text that has no FAULT: how many STATEMENTS; nothing is refused. */
    private static SeenInOrderOfAge reads(Sentence s, String text, int statements) {
        SeenInOrderOfAge x = scene();
        s.is("'" + text + "'", Due.read(x, text), statements);
        s.is("'" + text + "' is not refused", x.status(12), 0);
        s.is("THE TAPE is empty behind '" + text + "'", x.status(5), 0);
        return x;
    }

    /** Reads a text with a FAULT: where; it is BAD, and all is as it was. */
    private static void fault(Sentence s, String text, int place) {
        SeenInOrderOfAge x = scene();
        s.is("'" + text + "'", Due.read(x, text), -20 - place);
        s.is("'" + text + "' is BAD", x.status(12), 1);
        s.is("'" + text + "' is nothing else", x.status(13) + x.status(14) + x.status(15) + x.status(16), 0);
        s.same("'" + text + "' changes nothing", Story.of(x), Story.of(scene()));
    }

    private static String times(String text, int n) {
        StringBuilder all = new StringBuilder();
        for (int i = 0; i < n; i++) {
            all.append(text);
        }
        return all.toString();
    }

    private static void bytesAtMost() {
        Sentence s = Sentence.of(15, "A WINDOW is read from THE TAPE (bytes, 250 at most).");
        String blanks = times(" ", 250 - "place 11 7".length());
        SeenInOrderOfAge x = reads(s, blanks + "place 11 7", 1);
        s.is("the last NUMBER of 250 bytes", x.sortAt(11), 7);
        reads(s, "place 11 7" + blanks, 1);
        reads(s, "place" + blanks + " 11 7", 1);
        fault(s, blanks + "place 11 8", 249);
        fault(s, times(" ", 250), 250);
        fault(s, times(" ", 249) + "x", 249);
        fault(s, times("clear 1;", 31) + " 9", 249);
        fault(s, times("0", 250), 0);
        fault(s, times("clear1 ;", 31), 248);
        x = reads(s, times("clear0;", 34) + "clear11", 35);
        s.same("the most STATEMENTS", Due.sorts(x), ".3333333333.");
        SeenInOrderOfAge y = scene();
        Scenes.feed(y, times("clear 0;", 31) + "cl");
        s.is("a 251st byte is no part of it", y.feed('e'), Due.FULL);
        s.is("so it is cut off", y.window(), -268);
        s.is("two refusals", y.status(12) * 10 + y.status(16), 11);
    }

    private static void asLongAsCanBe() {
        Sentence s = Sentence.of(15, "TOKENS, each as long as can be: WORDS (a .. z), NUMBERS (digits), the SIGN ;");
        SeenInOrderOfAge x = reads(s, "clear11;place0 1", 2);
        s.same("11 is one NUMBER", Due.sorts(x), "13333333333.");
        fault(s, "place11", 7);
        fault(s, "place 1112", 6);
        fault(s, "clearclear 0", 0);
        fault(s, "clear0clear1", 6);
        fault(s, "clear 1 1", 8);
        fault(s, "cle ar 0", 0);
        fault(s, "clears 0", 0);
        fault(s, "place 0 1x", 9);
        fault(s, "place 0x 1", 7);
        fault(s, "clear x0", 6);
        x = reads(s, "place0 1;clear2;looker1 2 3;likes1 3", 4);
        s.is("no blank between a WORD and a NUMBER", x.lookerOf(1, 3), 8);
    }

    private static void blanks() {
        Sentence s = Sentence.of(15, "blanks (32) may stand anywhere between");
        reads(s, "clear0", 1);
        reads(s, " clear 0", 1);
        reads(s, "clear 0 ", 1);
        reads(s, "clear    0    ", 1);
        reads(s, "clear 0;clear 1", 2);
        reads(s, "clear 0 ; clear 1", 2);
        reads(s, "   clear 0   ;   clear 1   ", 2);
        fault(s, "looker 1 23", 9);
        reads(s, "looker 1 2 3", 1);
        for (int b = 0; b < 256; b++) {
            if (b != ' ' && (b < '0' || b > '9')) {
                fault(s, "clear" + (char) b + "0", b >= 'a' && b <= 'z' ? 0 : 5);
                fault(s, "clear 0" + (char) b, b == ';' ? 8 : 7);
                fault(s, (char) b + "clear 0", 0);
            }
        }
    }

    private static void oneOrMore() {
        Sentence s = Sentence.of(15, "THE TAPE is a WINDOW: how many STATEMENTS; -20 less the FAULT");
        fault(s, "", 0);
        fault(s, " ", 1);
        fault(s, ";", 0);
        fault(s, "  ;", 2);
        reads(s, "clear 0", 1);
        reads(s, "clear 0;clear 0", 2);
        reads(s, "clear 0;clear 0;clear 0", 3);
    }

    private static void between() {
        Sentence s = Sentence.of(15, "STATEMENTS, one or more, with ; between");
        fault(s, "clear 0;", 8);
        fault(s, "clear 0; ", 9);
        fault(s, ";clear 0", 0);
        fault(s, "clear 0;;clear 0", 8);
        fault(s, "clear 0; ;clear 0", 9);
        fault(s, "clear 0 clear 0", 8);
        fault(s, "clear 0 0", 8);
        fault(s, "clear;0", 5);
        fault(s, "place 0;1", 7);
        fault(s, "clear 0;0", 8);
        fault(s, "clear 0:clear 0", 7);
    }

    private static void place() {
        Sentence s = Sentence.of(15, "place P S (a THING of S there, whatever was)");
        s.same("the first PLACE", Due.sorts(reads(s, "place 0 0", 1)), "033333333333");
        s.same("the last PLACE", Due.sorts(reads(s, "place 11 7", 1)), "333333333337");
        s.same("twice the same", Due.sorts(reads(s, "place 1 6;place 1 5", 2)), "353333333333");
        s.same("as it is", Due.sorts(reads(s, "place 10 03", 1)), "333333333333");
        s.same("an empty one", Due.sorts(reads(s, "clear 10;place 10 1", 2)), "333333333313");
        fault(s, "place 12 0", 6);
        fault(s, "place 99 0", 6);
        fault(s, "place 0 8", 8);
        fault(s, "place 0 10", 8);
        fault(s, "place 0 99", 8);
        fault(s, "place -1 0", 6);
        fault(s, "place 0 -1", 8);
        fault(s, "place 12 8", 6);
        fault(s, "place 0 0 0", 10);
    }

    private static void clear() {
        Sentence s = Sentence.of(15, "clear P (nothing)");
        s.same("the first PLACE", Due.sorts(reads(s, "clear 0", 1)), ".33333333333");
        s.same("the last PLACE", Due.sorts(reads(s, "clear 11", 1)), "33333333333.");
        s.same("an empty one", Due.sorts(reads(s, "clear 5;clear 5", 2)), "33333.333333");
        fault(s, "clear 12", 6);
        fault(s, "clear 99", 6);
        fault(s, "clear -1", 6);
    }

    private static void looker() {
        Sentence s = Sentence.of(15, "looker K A G (G: AGE)");
        int[][] told = {{0, 0, 0}, {1, 1, 1}, {4, 6, 98}, {5, 7, 99}};
        for (int[] t : told) {
            SeenInOrderOfAge x = reads(s, "looker " + t[0] + " " + t[1] + " " + t[2], 1);
            s.is("how many", x.status(0), 2);
            int[] want = {t[0], t[1], t[2], 0, 6, Due.NONE};
            for (int what = 0; what < 6; what++) {
                s.is("of the looker, " + what, x.lookerOf(1, what), want[what]);
            }
            for (int what = 10; what < 18; what++) {
                s.is("HAS " + what, x.lookerOf(1, what), 0);
            }
            s.is("ORDER", x.order(3, 0), t[2] < 50 ? 1 : 0);
        }
        fault(s, "looker 6 0 0", 7);
        fault(s, "looker 0 8 0", 9);
        fault(s, "looker 0 0 100", 11);
        fault(s, "looker 99 99 99", 7);
        fault(s, "looker 0 99 99", 9);
        fault(s, "looker 0 0 0 0", 13);
        fault(s, "looker 0 0 -1", 11);
    }

    private static void likes() {
        Sentence s = Sentence.of(15, "likes X S");
        s.is("the least SORT", reads(s, "likes 0 0", 1).lookerOf(0, 3), 1);
        s.is("the greatest SORT", reads(s, "likes 0 7", 1).lookerOf(0, 3), 128);
        s.is("his a", reads(s, "likes 0 2", 1).lookerOf(0, 3), 4);
        s.is("twice told", reads(s, "likes 0 5;likes 0 5", 2).lookerOf(0, 3), 32);
        s.is("what he LIKES stays", reads(s, "likes 0 5;likes 0 6", 2).lookerOf(0, 3), 96);
        fault(s, "likes 1 0", 6);
        fault(s, "likes 99 0", 6);
        fault(s, "likes 0 8", 8);
    }

    private static void comes() {
        Sentence s = Sentence.of(15, "comes X N");
        s.is("the least", reads(s, "comes 0 0", 1).lookerOf(0, 4), 0);
        s.is("one more", reads(s, "comes 0 1", 1).lookerOf(0, 4), 1);
        s.is("one less than the greatest", reads(s, "comes 0 11", 1).lookerOf(0, 4), 11);
        s.is("the greatest", reads(s, "comes 0 12", 1).lookerOf(0, 4), 12);
        fault(s, "comes 0 13", 8);
        fault(s, "comes 0 99", 8);
        fault(s, "comes 0 012", 8);
        fault(s, "comes 1 0", 6);
    }

    private static void shine() {
        Sentence s = Sentence.of(15, "shine X S");
        s.is("the least SORT", reads(s, "shine 0 0", 1).lookerOf(0, 5), 0);
        s.is("the greatest SORT", reads(s, "shine 0 7", 1).lookerOf(0, 5), 7);
        s.is("what is told last", reads(s, "shine 0 7;shine 0 4", 2).lookerOf(0, 5), 4);
        fault(s, "shine 0 8", 8);
        fault(s, "shine 1 0", 6);
        fault(s, "shine 0 -1", 8);
    }

    private static void whoIsThere() {
        Sentence s = Sentence.of(15, "All comes to what there is");
        SeenInOrderOfAge x = reads(s, "looker 0 0 0;likes 1 1;looker 0 0 1;comes 2 2;shine 2 3;shine 0 4", 6);
        s.is("the second LIKES", x.lookerOf(1, 3), 2);
        s.is("the third COMES", x.lookerOf(2, 4), 2);
        s.is("the third has a SHINE", x.lookerOf(2, 5), 3);
        s.is("the first has a SHINE", x.lookerOf(0, 5), 4);
        fault(s, "looker 0 0 0;likes 2 1", 19);
        fault(s, "likes 1 1;looker 0 0 0", 6);
        Sentence none = Sentence.of(15, "(also a NUMBER that may not be");
        for (String word : new String[] {"likes", "comes", "shine"}) {
            SeenInOrderOfAge y = Scenes.bare();
            none.is("nobody is there for " + word, Due.read(y, word + " 0 0"), -26);
        }
        SeenInOrderOfAge y = Scenes.eight();
        none.is("eight are", Due.read(y, "likes 7 0;comes 7 0;shine 7 0"), 3);
        none.is("a ninth isn't", Due.read(y, "shine 7 0;likes 8 0"), -36);
    }

    private static void allOrNothing() {
        Sentence s = Sentence.of(15, "All comes to what there is, or nothing.");
        String all = "place 0 1;clear 1;looker 1 1 1;likes 0 1;comes 0 1;shine 0 1;likes 1 4";
        SeenInOrderOfAge x = reads(s, all, 7);
        s.same("WINDOW", Due.sorts(x), "1.3333333333");
        s.is("how many", x.status(0), 2);
        fault(s, all + ";", all.length() + 1);
        fault(s, all + ";place 0 8", all.length() + 9);
        fault(s, all + "?", all.length());
        SeenInOrderOfAge y = scene();
        Due.read(y, "looker 5 5 5;place");
        s.is("the number of the next", y.looker(0, 0, 7), 1);
        s.is("is of his own", y.lookerOf(1, 2), 7);
        s.is("a window behind that", Due.read(y, "likes 1 6"), 1);
    }

    private static void mayNotBe() {
        Sentence s = Sentence.of(15, "The FAULT: the place of the first byte of the first TOKEN that can't stand there (also a NUMBER that may not be, ");
        fault(s, "place 12 99;x", 6);
        fault(s, "place 11 99;x", 9);
        fault(s, "place  11   8", 12);
        fault(s, "clear 0;place 1 1;clear 12", 24);
        fault(s, "looker 1 1 1;looker 9 9 9", 20);
        fault(s, "0", 0);
        fault(s, "11 place", 0);
        fault(s, "place place 0", 6);
        fault(s, "place 0 place", 8);
    }

    private static void digits() {
        Sentence s = Sentence.of(15, "or has more than 2 digits");
        SeenInOrderOfAge x = reads(s, "place 00 07;clear 09", 2);
        s.same("2 digits", Due.sorts(x), "733333333.33");
        fault(s, "place 000 0", 6);
        fault(s, "place 0 007", 8);
        fault(s, "clear 011", 6);
        fault(s, "clear 100", 6);
        fault(s, "looker 0 0 000", 11);
        fault(s, "looker 0 0 099", 11);
        fault(s, "looker 000 0 0", 7);
        fault(s, "clear 4294967296", 6);
        fault(s, "clear 18446744073709551616", 6);
        fault(s, "clear " + times("0", 244), 6);
        fault(s, "clear " + times("1", 243), 6);
        fault(s, "clear 000x", 6);
    }

    private static void noRoom() {
        Sentence s = Sentence.of(15, "what there is no room for: its word");
        String seven = times("looker 0 0 0;", 6) + "looker 0 0 0";
        reads(s, seven, 7);
        fault(s, seven + ";looker 0 0 0", 91);
        fault(s, seven + ";  looker 0 0 0", 93);
        fault(s, seven + ";looker", 91);
        fault(s, seven + ";looker 9 9 9", 91);
        fault(s, seven + ";looker0 0 0;x", 91);
        fault(s, seven + ";lookers 0 0 0", 91);
        SeenInOrderOfAge x = reads(s, seven + ";likes 7 7;place 0 0", 9);
        s.is("the eighth LIKES", x.lookerOf(7, 3), 128);
    }

    private static void noByteOfAny() {
        Sentence s = Sentence.of(15, "a byte that begins none");
        for (int b = 0; b < 256; b++) {
            char c = (char) b;
            boolean isWord = b >= 'a' && b <= 'z';
            boolean isDigit = b >= '0' && b <= '9';
            if (b != ' ') {
                fault(s, " " + c, 1);
            }
            if (b != ' ' && !isDigit) {
                fault(s, "clear " + c, 6);
                fault(s, "clear 12" + c, 6);
            }
            if (!isDigit && !isWord && b != ' ' && b != ';') {
                fault(s, "place 1 1;" + c + "clear 0", 10);
                fault(s, "place 1 1" + c + ";clear 0", 9);
                fault(s, "place 1" + c + "1", 7);
            }
        }
    }

    private static void words() {
        Sentence s = Sentence.of(15, "place P S");
        String[] words = {"place", "clear", "looker", "likes", "comes", "shine"};
        String[] numbers = {" 0 0", " 0", " 0 0 0", " 0 0", " 0 0", " 0 0"};
        for (int i = 0; i < 6; i++) {
            String word = words[i];
            reads(s, word + numbers[i], 1);
            fault(s, word.toUpperCase() + numbers[i], 0);
            fault(s, Character.toUpperCase(word.charAt(0)) + word.substring(1) + numbers[i], 0);
            fault(s, word + "s" + numbers[i], 0);
            fault(s, "a" + word + numbers[i], 0);
            for (int cut = 1; cut < word.length(); cut++) {
                fault(s, word.substring(0, cut) + numbers[i], 0);
                fault(s, word.substring(cut) + numbers[i], 0);
            }
            for (int at = 0; at < word.length(); at++) {
                fault(s, word.substring(0, at) + "z" + word.substring(at + 1) + numbers[i], 0);
            }
        }
    }

    /** The FAULT of a text's beginnings; one that has none is told by how many STATEMENTS it has, and 1000. */
    private static void tooEarly() {
        Sentence s = Sentence.of(15, "THE TAPE's size, if it ends too early");
        String text = "looker 1 2 34; clear 3 ";
        int[] want = {
            0, 0, 0, 0, 0, 0, 6, 7, 8, 9, 10, 11, 1001, 1001,
            14, 15, 15, 15, 15, 15, 20, 21, 1002, 1002,
        };
        for (int size = 0; size <= text.length(); size++) {
            if (want[size] > 1000) {
                reads(s, text.substring(0, size), want[size] - 1000);
            } else {
                fault(s, text.substring(0, size), want[size]);
            }
        }
    }

    private static void tooEarlyByStatement() {
        Sentence s = Sentence.of(15, "THE TAPE's size, if it ends too early");
        for (String early : new String[] {"place", "place 0", "clear", "looker", "looker 0", "looker 0 0", "likes", "likes 0", "comes", "comes 0", "shine", "shine 0"}) {
            fault(s, early, early.length());
            fault(s, early + "   ", early.length() + 3);
            fault(s, "clear 0;" + early, early.length() + 8);
            fault(s, early + ";", early.length());
        }
    }

    private static void emptyThen() {
        Sentence s = Sentence.of(15, "THE TAPE is empty then, either way.");
        SeenInOrderOfAge x = Scenes.fullTape();
        s.is("a WINDOW", x.window(), 1);
        s.is("size", x.status(5), 0);
        s.is("another is none", x.window(), -20);
        s.is("room again", x.feed('x'), 1);
        s.is("a FAULT", x.window(), -20);
        s.is("size then", x.status(5), 0);
        s.is("nothing to wipe", x.wipe(), 0);
        s.is("what was fed ahead is gone", Due.read(x, "clear 0"), 1);
    }
}
