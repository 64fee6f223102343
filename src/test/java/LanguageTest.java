import java.io.IOException;
import java.nio.file.Files;
import java.nio.file.Path;
import java.util.List;
import java.util.regex.Matcher;
import java.util.regex.Pattern;

/** What of LANGUAGE.md can be seen by looking at the text of the program. */
public final class LanguageTest {
    private static final Path SOURCE = Path.of("src/main/java/SeenInOrderOfAge.java");
    private static final int LONGEST_METHOD = 60;
    private static final int MOST_CLASSES = 12;
    private static final int WIDEST_LINE = 120;
    private static int wrong = 0;

    public static void main(String[] args) throws IOException {
        List<String> lines = Files.readAllLines(SOURCE);
        String code = String.join("\n", lines).replaceAll("(?s)/\\*.*?\\*/|//[^\n]*", "").replaceAll("\"[^\"\n]*\"", "\"\"");
        words(code);
        library(code);
        lines(lines);
        methods(lines);
        System.out.println(wrong == 0 ? "the text keeps to the language" : wrong + " things are against the language");
        if (wrong != 0) {
            System.exit(1);
        }
    }

    private static void against(String what) {
        wrong++;
        System.out.println("against the language: " + what);
    }

    private static void words(String code) {
        String forbidden = "throw|throws|try|catch|finally|synchronized|assert|package|float|double|var|protected|volatile|transient"
            + "|native|equals|hashCode|toString|System\\.(?!arraycopy)\\w+|Object|Thread|new \\w+\\(\\) \\{|\\w+Exact";
        Matcher found = Pattern.compile("(?<![\\w.])(" + forbidden + ")(?!\\w)|->|::").matcher(code);
        while (found.find()) {
            against(found.group());
        }
        Matcher classes = Pattern.compile("(?m)^\\s*[\\w ]*\\b(class|enum|record|interface) \\w+").matcher(code);
        int number = 0;
        while (classes.find()) {
            number++;
        }
        if (number > MOST_CLASSES) {
            against(number + " classes");
        }
    }

    private static void library(String code) {
        Matcher found = Pattern.compile("(?<!\\w)(Integer|Long|Math|Arrays|System|String)\\.(\\w+)").matcher(code);
        List<String> allowed = List.of("bitCount", "highestOneBit", "lowestOneBit", "numberOfTrailingZeros", "max", "min", "fill", "arraycopy");
        while (found.find()) {
            if (!allowed.contains(found.group(2))) {
                against(found.group());
            }
        }
        Matcher imports = Pattern.compile("(?m)^import (.*);").matcher(code);
        while (imports.find()) {
            if (!imports.group(1).equals("java.util.Arrays")) {
                against(imports.group());
            }
        }
    }

    private static void lines(List<String> lines) {
        for (String line : lines) {
            if (line.length() > WIDEST_LINE || line.indexOf('\t') >= 0) {
                against("the line " + line);
            }
            if (line.chars().anyMatch(sign -> sign > 126)) {
                against("the signs of " + line);
            }
        }
    }

    /** A method begins with a line that ends with ") {" and ends with a brace as far in as it began. */
    private static void methods(List<String> lines) {
        Pattern head = Pattern.compile("( {4}| {8})(public|private) [^=;]*\\) \\{");
        for (int i = 0; i < lines.size(); i++) {
            Matcher m = head.matcher(lines.get(i));
            if (m.matches()) {
                int end = i;
                while (end < lines.size() && !lines.get(end).equals(m.group(1) + "}")) {
                    end++;
                }
                if (end - i + 1 > LONGEST_METHOD) {
                    against(end - i + 1 + " lines from " + lines.get(i).trim());
                }
            }
        }
    }
}
