import java.io.IOException;
import java.nio.file.Files;
import java.nio.file.Path;
import java.util.ArrayList;
import java.util.List;
import java.util.regex.Matcher;
import java.util.regex.Pattern;

/** What of LANGUAGE.md a look at the source can tell; run from the project's root. */
public final class LanguageTest {
    private static final Check CHECK = new Check("LanguageTest");
    private static final Path SOURCE = Path.of("src/main/java/EvenClock.java");
    private static final String[] RULED_OUT = {
        "->", "::", "\\btry\\b", "\\bcatch\\b", "\\bfinally\\b", "\\bassert\\b",
        "\\bsynchronized\\b",
        "\\bpackage\\b", "\\bstatic\\s*\\{", "\\bSystem\\.(?!arraycopy)", "\\bThread\\b",
        "\\bRandom\\b", "\\bObject\\b", "\\w+Exact\\b", "\\bdouble\\b", "\\bfloat\\b",
        "\\[\\]\\[\\]\\[\\]",
    };
    private static final Pattern METHOD = Pattern.compile(
            "^( +)(?!.*\\b(?:class|new|return|throw)\\b)[\\w\\[\\] ]+\\(([^)]*)\\).*");
    private static final Pattern MADE = Pattern.compile("\\bnew\\b");
    private static final Pattern ROW =
            Pattern.compile("\\bfinal (int|long)(\\[\\])+ \\w+ = new ");
    private static final Pattern FIELD =
            Pattern.compile("^ {8}(pins|tree|circuit) = new \\w+\\(\\);");

    public static void main(String[] args) throws IOException {
        List<String> lines = withoutComments(Files.readAllLines(SOURCE));
        imports(lines);
        for (String line : lines) {
            for (String pattern : RULED_OUT) {
                boolean found = Pattern.compile(pattern).matcher(line).find();
                CHECK.that("ruled out: " + line.trim(), !found);
            }
            objectsOnlyFromConstructors(line);
        }
        methods(lines);
        CHECK.end();
    }

    private static List<String> withoutComments(List<String> lines) {
        List<String> kept = new ArrayList<>();
        for (String line : lines) {
            String start = line.trim();
            boolean comment =
                    start.startsWith("//") || start.startsWith("/*") || start.startsWith("*");
            kept.add(comment ? "" : line);
        }
        return kept;
    }

    private static void imports(List<String> lines) {
        for (String line : lines) {
            CHECK.that("import: " + line, !line.startsWith("import ")
                    || line.equals("import java.util.NoSuchElementException;"));
        }
    }

    /** All calls of a run live in one room, so a call makes nothing but what it throws. */
    private static void objectsOnlyFromConstructors(String line) {
        if (MADE.matcher(line).find()) {
            boolean thrown = line.trim().startsWith("throw new ");
            boolean kept = ROW.matcher(line).find() || FIELD.matcher(line).find();
            CHECK.that("makes an object in a call: " + line.trim(), thrown || kept);
        }
    }

    private static void methods(List<String> lines) {
        int seen = 0;
        for (int k = 0; k < lines.size(); k++) {
            Matcher head = METHOD.matcher(lines.get(k));
            boolean opens = lines.get(k).endsWith("{")
                    || (k + 1 < lines.size() && lines.get(k + 1).trim().startsWith("throws "));
            if (!head.matches() || !opens || lines.get(k).trim().matches("(if|for|while|\\}).*")) {
                continue;
            }
            seen++;
            int end = k;
            String close = head.group(1) + "}";
            while (end < lines.size() && !lines.get(end).equals(close)) {
                end++;
            }
            CHECK.that("long: " + lines.get(k).trim(), end - k <= 60);
            int parameters = head.group(2).split(",").length;
            CHECK.that("many parameters: " + lines.get(k).trim(), parameters <= 7);
        }
        CHECK.that("only " + seen + " methods were found", seen > 40);
    }
}
