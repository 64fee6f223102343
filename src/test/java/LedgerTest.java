import java.io.IOException;
import java.nio.file.DirectoryStream;
import java.nio.file.Files;
import java.nio.file.Path;
import java.util.BitSet;
import java.util.Map;
import java.util.TreeMap;
import java.util.regex.Matcher;
import java.util.regex.Pattern;

/**
 * The sentences that the tests quote: each stands in the document as it is quoted, and by the promise that is
 * named; each promise is quoted; and nothing that the terms or the promises say is left unquoted.
 */
public final class LedgerTest {
    private static final Path DOCUMENT = Path.of("../shared/DOC.md");
    private static final Path TESTS = Path.of("src/test/java");
    private static final Pattern QUOTE = Pattern.compile("Sentence\\.of\\((\\d+), \"([^\"]*)\"\\)");
    private static final Pattern PROMISE = Pattern.compile("## Promise (\\d+):[^\\n]*\\n\\n([^\\n]*)");
    private static final Pattern NO_SENTENCE = Pattern.compile("==== \\d\\. AN EVENING|==== \\d\\. THE WINDOW|====|## Promise[^\\n]*|```text|`[^`\\n]*`");
    private static final int PROMISES = 52;
    private static int wrong = 0;

    public static void main(String[] args) throws IOException {
        if (!Files.isReadable(DOCUMENT)) {
            System.out.println("there is no document to be held against");
            return;
        }
        String document = Files.readString(DOCUMENT);
        Map<Integer, String> promises = promises(document);
        BitSet quoted = new BitSet();
        BitSet named = new BitSet();
        try (DirectoryStream<Path> files = Files.newDirectoryStream(TESTS, "*Test.java")) {
            for (Path file : files) {
                Matcher quote = QUOTE.matcher(Files.readString(file));
                while (quote.find()) {
                    int promise = Integer.parseInt(quote.group(1));
                    named.set(promise);
                    stands(file.getFileName() + ": " + promise, promise, quote.group(2), document, promises);
                    mark(quoted, document, quote.group(2));
                }
            }
        }
        for (int promise = 1; promise <= PROMISES; promise++) {
            check("promise " + promise + " is named by a test", named.get(promise));
        }
        unquoted(document, quoted);
        System.out.println(wrong == 0 ? "each sentence is quoted as it stands" : wrong + " things are not as they should be");
        if (wrong != 0) {
            System.exit(1);
        }
    }

    private static void check(String what, boolean holds) {
        if (!holds) {
            wrong++;
            System.out.println("it does not hold that " + what);
        }
    }

    private static Map<Integer, String> promises(String document) {
        Map<Integer, String> promises = new TreeMap<>();
        Matcher found = PROMISE.matcher(document);
        while (found.find()) {
            promises.put(Integer.parseInt(found.group(1)), found.group(2));
        }
        check("there are as many promises", promises.size() == PROMISES);
        return promises;
    }

    /** What stands only in promises must be quoted by one of those; of the terms it may be any. */
    private static void stands(String where, int promise, String words, String document, Map<Integer, String> promises) {
        check("in the document stands what is quoted in " + where + " \"" + words + "\"", document.contains(words));
        boolean isOfPromises = document.indexOf(words) >= document.indexOf("## Promise 1:");
        boolean isOfThis = promises.containsKey(promise) && promises.get(promise).contains(words);
        check("of that promise is what is quoted in " + where + " \"" + words + "\"", isOfThis || !isOfPromises);
    }

    private static void mark(BitSet quoted, String document, String words) {
        for (int at = document.indexOf(words); at >= 0 && !words.isEmpty(); at = document.indexOf(words, at + 1)) {
            quoted.set(at, at + words.length());
        }
    }

    private static void unquoted(String document, BitSet quoted) {
        Matcher none = NO_SENTENCE.matcher(document);
        while (none.find()) {
            quoted.set(none.start(), none.end());
        }
        int end = document.indexOf("## Not promised");
        int at = quoted.nextClearBit(document.indexOf("==== 1."));
        while (at < end) {
            int behind = quoted.nextSetBit(at);
            int stop = behind < 0 || behind > end ? end : behind;
            String rest = document.substring(at, stop);
            check("a test quotes \"" + rest.trim() + "\"", rest.chars().noneMatch(Character::isLetterOrDigit));
            at = quoted.nextClearBit(stop);
        }
    }
}
