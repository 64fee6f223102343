import java.io.IOException;
import java.nio.file.Files;
import java.nio.file.Path;
import java.util.List;
import java.util.stream.Collectors;

/** The example in README.md answers what it says there: each of its lines is made here, in its turn. */
public final class ReadmeTest {
    private static List<String> example;
    private static int at = 0;

    public static void main(String[] args) throws IOException {
        example = Files.readAllLines(Path.of("README.md")).stream()
            .dropWhile(line -> !line.equals("```java"))
            .takeWhile(line -> !line.equals("```"))
            .skip(1)
            .collect(Collectors.toList());
        line("SeenInOrderOfAge shop = new SeenInOrderOfAge();");
        SeenInOrderOfAge shop = new SeenInOrderOfAge();
        answer("shop.place(0, 3);", shop.place(0, 3), -1);
        answer("shop.place(5, 1);", shop.place(5, 1), -1);
        int child = shop.looker(1, 3, 7);
        answer("int child = shop.looker(1, 3, 7);", child, 0);
        int old = shop.looker(2, 1, 70);
        answer("int old = shop.looker(2, 1, 70);", old, 1);
        answer("shop.likes(child, 1, true);", shop.likes(child, 1, true), 0);
        answer("shop.left(0b11);", shop.left(0b11), 0);
        answer("shop.away(old, 1);", shop.away(old, 1), 1);
        answer("shop.setOut(0b11, SeenInOrderOfAge.NONE);", shop.setOut(0b11, SeenInOrderOfAge.NONE), 1);
        answer("shop.setOut(0b11, 0);", shop.setOut(0b11, 0), 1);
        answer("shop.place(12, 3);", shop.place(12, 3), -2);
        answer("shop.status(12);", shop.status(12), 1);
        answer("shop.evening(0b11);", shop.evening(0b11), 2);
        Due.is(0, "lines of the example", example.size(), at);
        Due.end();
    }

    /** The line of the example, and behind it, if it tells an answer, the one that is due. */
    private static void answer(String call, int got, int want) {
        String line = line(call);
        Due.is(0, call, got, want);
        int comment = line.indexOf("// ") + 3;
        if (line.substring(comment).matches("-?\\d+[:;].*")) {
            Due.is(0, "what is told of " + call, Integer.parseInt(line.substring(comment).split("[:;]")[0]), want);
        }
    }

    private static String line(String call) {
        String line = at < example.size() ? example.get(at) : "";
        at++;
        Due.is(0, "the example has " + call, line.startsWith(call) ? 1 : 0, 1);
        return line;
    }
}
