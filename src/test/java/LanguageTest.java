import java.nio.charset.StandardCharsets;
import java.nio.file.Files;
import java.nio.file.Path;
import java.util.List;
import java.util.regex.Matcher;
import java.util.regex.Pattern;

/** Looks in the source for what ../shared/LANGUAGE.md rules out, as far as a search for words can tell. */
public final class LanguageTest {
    private static final Check check = new Check();
    private static final int MOST_LINES = 60;
    private static final int MOST_CLASSES = 12;

    public static void main(String[] args) throws Exception {
        check.begin("language");
        String source = Files.readString(Path.of("src/main/java/RationOffice.java"), StandardCharsets.UTF_8);
        check.due("all signs are ASCII", source.chars().allMatch(sign -> sign < 128), true);
        String code = source.replaceAll("(?s)/\\*.*?\\*/", "").replaceAll("//[^\n]*", "").replaceAll("\"[^\"\n]*\"", "\"\"");
        for (String word : List.of("->", "::", "catch", "finally", "synchronized", "assert", "package", "instanceof",
            "hashCode", "toString", "System.out", "Random", "Thread", "while (true)", "for (;;)", "double", "float")) {
            check.due("no " + word, code.contains(word), false);
        }
        check.due("no Exact methods", Pattern.compile("\\w+Exact\\(").matcher(code).find(), false);
        check.due("no static block", Pattern.compile("static\\s*\\{").matcher(code).find(), false);
        check.due("no static field that is not final",
            Pattern.compile("static (?!final)[\\w\\[\\]]+ \\w+( =|;)").matcher(code).find(), false);
        imports(code);
        growingLoops(code);
        sizes(code);
        check.finish();
    }

    private static void imports(String code) {
        Matcher matcher = Pattern.compile("import ([^;]*);").matcher(code);
        while (matcher.find()) {
            check.due(matcher.group(1) + " is allowed", List.of("java.util.Arrays", "java.util.ArrayList",
                "java.util.List", "java.util.NoSuchElementException").contains(matcher.group(1)), true);
        }
    }

    /** A counter that is multiplied would jump over a bound that nobody knows, so its bound must be a constant. */
    private static void growingLoops(String code) {
        Matcher matcher = Pattern.compile("for \\([^;]*;([^;]*);[^;{]*(\\*=|<<=)").matcher(code);
        while (matcher.find()) {
            check.due("a constant bounds " + matcher.group(), matcher.group(1).contains("MAX_"), true);
        }
    }

    private static void sizes(String code) {
        int classes = 0;
        int start = 0;
        String[] lines = code.split("\n");
        for (int line = 0; line < lines.length; line++) {
            if (lines[line].matches(".*\\b(class|enum|interface|record) \\w+.*\\{")) {
                classes++;
            } else if (lines[line].matches("(    |        )\\S.*\\) (throws \\w+ )?\\{") && !lines[line].contains(" if (")
                && !lines[line].contains("for (") && !lines[line].contains("while (")) {
                start = line;
            } else if (lines[line].matches("(    |        )\\}")) {
                check.due("lines from " + lines[start].trim() + " on are few", line - start <= MOST_LINES, true);
            }
        }
        check.due("classes are few: " + classes, classes <= MOST_CLASSES, true);
    }
}
