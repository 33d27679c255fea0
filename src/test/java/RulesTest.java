import java.io.IOException;
import java.nio.charset.StandardCharsets;
import java.nio.file.Files;
import java.nio.file.Path;
import java.util.ArrayList;
import java.util.List;
import java.util.Set;
import java.util.TreeSet;
import java.util.regex.Matcher;
import java.util.regex.Pattern;

/** Those rules of LANGUAGE.md that can be seen in the text of the class; the rules' numbers are theirs. */
public final class RulesTest {
    private static final String SOURCE = "src/main/java/Pulsemesh.java";
    private static final String[] BARRED = {"\\bimport\\b", "\\bpackage\\b", "\\bcatch\\b", "\\btry\\b", "\\bfinally\\b",
        "->", "::", "\\bassert\\b", "\\bsynchronized\\b", "\\binstanceof\\b", "\\bThread\\b", "\\bSystem\\b",
        "\\bRandom\\b", "\\w+Exact\\b", "\\bprotected\\b", "\\bhashCode\\b", "\\bequals\\b", "\\bvar\\b", "\\brecord\\b",
        "\\bwhile\\b", "\\bdo\\b", "\"\\s*\\+", "\\+\\s*\"", "%", "\\bnull\\b", "\\bstatic\\s*\\{"};
    private static final Set<String> LIBRARY = Set.of("Integer.bitCount", "Math.min", "Math.max");
    private static final int MOST_LINES = 60;
    private static final int MOST_CLASSES = 12;

    /** A method or constructor: its first line and those after it. */
    private static final class Body {
        final String header;
        final List<String> lines = new ArrayList<>();

        Body(String header) {
            this.header = header;
        }
    }

    public static void main(String[] args) throws IOException {
        String source = Files.readString(Path.of(SOURCE), StandardCharsets.UTF_8);
        Due.same("only plain signs", source.chars().allMatch(sign -> sign == '\n' || sign >= 32 && sign <= 126), true);
        String code = source.replaceAll("(?s)/\\*.*?\\*/", "").replaceAll("//[^\n]*", "");
        String bare = code.replaceAll("\"[^\"\n]*\"", "\"\"");
        List<Body> bodies = bodiesOf(code);
        dueWords(bare);
        dueLibrary(bare);
        dueThrows(code, bodies);
        dueIndexes(bare);
        dueLoops(bare);
        dueMeasures(bare, bodies);
        dueMaking(bare);
        Due.end("RulesTest");
    }

    private static List<Body> bodiesOf(String code) {
        List<Body> bodies = new ArrayList<>();
        Body open = null;
        Pattern header = Pattern.compile("( {4}){1,2}[\\w<][^=;]*\\) ?(throws [\\w, ]+)? ?\\{");
        for (String line : code.split("\n")) {
            if (open == null && header.matcher(line).matches()) {
                open = new Body(line);
                bodies.add(open);
            } else if (open != null && line.equals(open.header.replaceFirst("\\S.*", "}"))) {
                open = null;
            } else if (open != null) {
                open.lines.add(line);
            }
        }
        Due.same("methods are found in the text", bodies.size() > 21, true);
        return bodies;
    }

    /** Rules 2, 4, 5, 6, 9, 10 and 13. */
    private static void dueWords(String bare) {
        for (String each : BARRED) {
            Due.same("'" + each + "' is found", Pattern.compile(each).matcher(bare).find(), false);
        }
    }

    /** Rule 4: of the library only what is needed, and all of that stands in the rule. */
    private static void dueLibrary(String bare) {
        Set<String> inside = namesOfClasses(bare);
        Matcher call = Pattern.compile("\\b([A-Z]\\w*[a-z]\\w*)\\.(\\w+)").matcher(bare);
        while (call.find()) {
            boolean isOurs = inside.contains(call.group(1));
            Due.same(call.group() + " is of rule 4", isOurs || LIBRARY.contains(call.group()), true);
        }
    }

    private static Set<String> namesOfClasses(String bare) {
        Set<String> names = new TreeSet<>();
        Matcher name = Pattern.compile("\\bclass (\\w+)").matcher(bare);
        while (name.find()) {
            names.add(name.group(1));
        }
        return names;
    }

    /** Rule 6: a throw stands in a method of the face alone, and its head names what is thrown. */
    private static void dueThrows(String code, List<Body> bodies) {
        int found = 0;
        for (Body body : bodies) {
            for (String line : body.lines) {
                if (!line.contains("throw")) {
                    continue;
                }
                found++;
                Matcher thrown = Pattern.compile("\\s+throw new (\\w+)\\(\"[^\"]+\"\\);").matcher(line);
                Due.same(line.strip() + " is of rule 6", thrown.matches(), true);
                boolean isTold = thrown.matches() && body.header.startsWith("    public ")
                        && body.header.contains(" throws ") && body.header.contains(thrown.group(1));
                Due.same(line.strip() + " is told by its method", isTold, true);
            }
        }
        Due.same("all throws stand in methods", code.split("\\bthrow new\\b", -1).length - 1, found);
    }

    /** Rule 7: indexes stand in Table alone, each behind its test, and the one divisor behind its own. */
    private static void dueIndexes(String bare) {
        Matcher table = Pattern.compile("(?s) {4}private static final class Table \\{.*?\n {4}\\}\n").matcher(bare);
        Due.same("Table is found", table.find(), true);
        String rest = bare.replace(table.group(), "");
        Due.same("indexes outside Table", Pattern.compile("\\w\\[|\\[\\]").matcher(rest).find(), false);
        int places = table.group().split("numbers\\[row \\* SIDE \\+ column\\]", -1).length - 1;
        int tests = table.group().split("if \\(row < 0 \\|\\| row >= SIDE \\|\\| column < 0 \\|\\| column >= SIDE\\)", -1)
                .length - 1;
        Due.same("tests of an index in Table", tests, places);
        String[] halves = bare.split("/", -1);
        Due.same("how many divisions", halves.length - 1, 1);
        Due.same("the divisor is tested", bare.contains("return size < 1 ? 0 : (length + size - 1) / size;"), true);
        Due.same("casts", Pattern.compile("\\((int|long|char|byte|short|[A-Z]\\w*)\\) ?\\w").matcher(bare).find(), false);
    }

    /** Rule 9: each loop counts up to a bound that stands in its own line. */
    private static void dueLoops(String bare) {
        Pattern counted = Pattern.compile("for \\(int (\\w+) = [\\w]+; \\1 <=? [^;]+; \\1\\+\\+\\) \\{");
        int loops = 0;
        for (String line : bare.split("\n")) {
            if (Pattern.compile("\\bfor\\b").matcher(line).find()) {
                loops++;
                Due.same(line.strip() + " is of rule 9", counted.matcher(line.strip()).matches(), true);
            }
        }
        Due.same("loops are found in the text", loops > 0, true);
    }

    /** Rule 11. */
    private static void dueMeasures(String bare, List<Body> bodies) {
        for (Body body : bodies) {
            Due.same(body.header.strip() + " is short", body.lines.size() <= MOST_LINES, true);
        }
        Due.same("few enough classes", namesOfClasses(bare).size() <= MOST_CLASSES, true);
    }

    /** Rule 12: all is made with the object, but for exceptions and the one text of a row. */
    private static void dueMaking(String bare) {
        int texts = 0;
        for (String line : bare.split("\n")) {
            if (!Pattern.compile("\\bnew\\b").matcher(line).find()) {
                continue;
            }
            boolean isText = line.contains("new StringBuilder()");
            texts += isText ? 1 : 0;
            boolean isKept = line.strip().startsWith("private final ") || line.strip().startsWith("throw new ");
            Due.same(line.strip() + " is of rule 12", isText || isKept, true);
        }
        Due.same("texts that are made", texts, 1);
    }
}
