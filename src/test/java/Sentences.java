import java.io.IOException;
import java.nio.charset.StandardCharsets;
import java.nio.file.Files;
import java.nio.file.Path;
import java.util.ArrayList;
import java.util.LinkedHashMap;
import java.util.List;
import java.util.Map;
import java.util.function.IntSupplier;
import java.util.function.IntUnaryOperator;
import java.util.regex.Matcher;
import java.util.regex.Pattern;

/**
 * Puts answers under the sentences of ../shared/DOC.md that they test, and finds the sentences that name a boundary
 * case and have no test.
 */
final class Sentences {
    /** What makes a sentence one that names a boundary case. */
    private static final Pattern BOUNDARY = Pattern.compile("\\d|_|FULL|LACKING|IMPOSSIBLE|IndexOutOfBounds|\\b(if|most|least|"
        + "greater|greatest|less|lacking|fewer|fewest|[Tt]ies|none|no|not|never|only|alone|other|others|rounded|empty|empties|"
        + "order|first|latest|same|already|too|all|again|regardless|without|even|maximal|nothing|before|then|left)\\b");
    private static final Pattern HEADING =
        Pattern.compile("(?m)^(OFFICE|COUPONS|PERIODS|BUYING|DELIVERIES|TRADING|AUDITS|CHANGES|TEXT FORMAT for load)\\. ");
    private static final int[] STRANGE = {-1, Integer.MAX_VALUE, Integer.MIN_VALUE};

    private final Check check = new Check();
    private final Map<String, String> sections = new LinkedHashMap<>();
    private final Map<String, StringBuilder> tested = new LinkedHashMap<>();
    private String section = "";
    private String sentence = "";
    private int answers = 0;

    Sentences() throws IOException {
        String document = Files.readString(Path.of("../shared/DOC.md"), StandardCharsets.UTF_8);
        int start = document.indexOf("## Description");
        int face = document.indexOf("## The public face");
        add("What it is", document.substring(document.indexOf("## What it is") + "## What it is".length(), face));
        readHeadings(document.substring(start, document.indexOf("The constants:", start)));
        readPromises(document.substring(document.indexOf("## Promise 1"), document.indexOf("## Not promised")));
    }

    private void readHeadings(String description) {
        Matcher matcher = HEADING.matcher(description);
        String name = "";
        int start = 0;
        while (matcher.find()) {
            add(name, description.substring(start, matcher.start()));
            name = matcher.group(1);
            start = matcher.end();
        }
        add(name, description.substring(start));
    }

    private void readPromises(String promises) {
        for (String promise : promises.split("(?m)^## ")) {
            int colon = promise.indexOf(':');
            if (colon > 0) {
                add(promise.substring(0, colon), promise.substring(promise.indexOf('\n')));
            }
        }
    }

    private void add(String name, String text) {
        if (!name.isEmpty()) {
            sections.put(name, text);
            tested.put(name, new StringBuilder());
        }
    }

    private static String inOneLine(String text) {
        return text.replaceAll("\\s+", " ").trim();
    }

    void section(String name) {
        check.due("there is a section " + name, sections.containsKey(name), true);
        section = name;
    }

    /** The answers that follow test this sentence, or these sentences, of the present section. */
    void says(String words) {
        close();
        sentence = words;
        answers = 0;
        check.begin(section + ", \"" + words + "\"");
        check.due("the document says so", inOneLine(sections.getOrDefault(section, "")).contains(words), true);
        tested.getOrDefault(section, new StringBuilder()).append(words).append('\n');
    }

    private void close() {
        if (!sentence.isEmpty() && answers == 0) {
            check.miss("no answer tests it");
        }
    }

    void due(String call, long got, long want) {
        answers++;
        check.due(call, got, want);
    }

    void due(String call, boolean got, boolean want) {
        answers++;
        check.due(call, got, want);
    }

    void same(String call, String got, String want) {
        due(call + (got.equals(want) ? "" : ":\n" + got + "\nwas\n" + want), got.equals(want), true);
    }

    void outOfBounds(String call, IntSupplier run) {
        answers++;
        check.outOfBounds(call, run);
    }

    /** The call must answer for the indexes from 0 to count - 1, and throw for all others. */
    void index(String call, int count, IntUnaryOperator run) {
        for (int good = 0; good < count; good++) {
            run.applyAsInt(good);
            answers++;
        }
        badIndex(call, count, run);
    }

    /** The call must throw for all indexes but those from 0 to count - 1. */
    void badIndex(String call, int count, IntUnaryOperator run) {
        outOfBounds(call + " of " + count, () -> run.applyAsInt(count));
        outOfBounds(call + " of " + (count + 1), () -> run.applyAsInt(count + 1));
        for (int bad : STRANGE) {
            outOfBounds(call + " of " + bad, () -> run.applyAsInt(bad));
        }
    }

    /** The call must answer so for all indexes but those from 0 to count - 1. */
    void badIndex(String call, int count, int want, IntUnaryOperator run) {
        due(call + " of " + count, run.applyAsInt(count), want);
        due(call + " of " + (count + 1), run.applyAsInt(count + 1), want);
        for (int bad : STRANGE) {
            due(call + " of " + bad, run.applyAsInt(bad), want);
        }
    }

    /** The call must answer BAD_VALUE just outside the range and far from it, but not at its ends. */
    void range(String call, int least, int greatest, IntUnaryOperator run) {
        for (int bad : new int[] {least - 1, greatest + 1, Integer.MIN_VALUE, Integer.MAX_VALUE}) {
            due(call + " of " + bad, run.applyAsInt(bad), RationOffice.BAD_VALUE);
        }
        for (int good : new int[] {least, greatest}) {
            due(call + " of " + good + " is no BAD_VALUE", run.applyAsInt(good) != RationOffice.BAD_VALUE, true);
        }
    }

    void loads(String text, int statements) {
        due(text, Texts.load(new RationOffice(), text), statements);
    }

    void error(String text, int code, int position) {
        RationOffice x = new RationOffice();
        due(text, Texts.load(x, text), code);
        due("position in " + text, x.errorPosition(), position);
    }

    void finish() {
        close();
        check.begin("the document");
        for (Map.Entry<String, String> entry : sections.entrySet()) {
            String quoted = tested.get(entry.getKey()).toString();
            for (String clause : clausesOf(entry.getValue())) {
                if (BOUNDARY.matcher(clause).find() && !quoted.contains(clause)) {
                    check.miss(entry.getKey() + " has a sentence without a test: " + clause);
                }
            }
        }
        check.finish();
    }

    /** Leaves out the signature and the words that name a parameter. */
    private static List<String> clausesOf(String text) {
        List<String> clauses = new ArrayList<>();
        for (String paragraph : text.split("\n\\s*\n")) {
            if (!paragraph.trim().matches("`[^`]*`")) {
                for (String line : paragraph.split("\n")) {
                    for (String clause : line.replaceFirst("^\\s*- `\\w+`: ", "").split("(?<=[.;])\\s+")) {
                        clauses.add(inOneLine(clause).replaceFirst("[.;]$", ""));
                    }
                }
            }
        }
        return clauses;
    }
}
