import java.io.IOException;
import java.nio.file.Files;
import java.nio.file.Path;
import java.util.List;
import java.util.Set;
import java.util.TreeSet;
import java.util.regex.MatchResult;
import java.util.regex.Pattern;

/** Some rules of ../shared/LANGUAGE.md that can be seen from the program's lines. */
public final class LanguageTest {
    private static final Path PROGRAM = Path.of("src/main/java/MeterRooms.java");

    private static final String[] NOT_ALLOWED = {
        "^package\\b", "^import\\b", "->", "::", "\\bcatch\\b", "\\bfinally\\b", "\\bassert\\b",
        "\\bsynchronized\\b", "Exact\\b", "\\bdouble\\b", "\\bfloat\\b", "\\bSystem\\b", "\\bObject\\b",
        "\\bequals\\b", "\\bhashCode\\b", "\\btoString\\b", "\\bprotected\\b", "\"\\s*\\+", "\\+\\s*\"",
    };

    /** All names with a great first letter that the program uses: its own classes, and what the rules allow. */
    private static final Set<String> NAMES = Set.of("MeterRooms", "Text", "Reader", "Settings", "Room", "State",
            "Memory", "Slot", "Math", "IllegalArgumentException", "IllegalStateException",
            "IndexOutOfBoundsException");

    private static final int MOST_LINES = 60;

    public static void main(String[] args) throws IOException {
        Checks checks = new Checks("LanguageTest");
        List<String> lines = Files.readAllLines(PROGRAM);
        for (String part : NOT_ALLOWED) {
            checks.same("lines with " + part, "[]", linesWith(lines, part));
        }
        checks.same("exceptions without a written text", "[]",
                linesWith(lines, "throw (?!new (Illegal(State|Argument)|IndexOutOfBounds)Exception\\(\"[^\"]*\"\\);)"));
        checks.same("other names", "[]", otherNames(lines));
        checks.same("methods over " + MOST_LINES + " lines", "[]", longMethods(lines));
        checks.end();
    }

    private static String linesWith(List<String> lines, String part) {
        Pattern pattern = Pattern.compile(part);
        return lines.stream().filter(line -> !isComment(line) && pattern.matcher(line).find()).toList().toString();
    }

    private static String otherNames(List<String> lines) {
        Set<String> found = new TreeSet<>();
        for (String line : lines) {
            String code = isComment(line) ? "" : line.replaceAll("\"[^\"]*\"|//.*", "");
            Pattern.compile("\\b[A-Z]\\w*[a-z]\\w*").matcher(code).results()
                    .map(MatchResult::group).filter(name -> !NAMES.contains(name)).forEach(found::add);
        }
        return found.toString();
    }

    private static boolean isComment(String line) {
        String text = line.strip();
        return text.startsWith("//") || text.startsWith("*") || text.startsWith("/*");
    }

    /** A method's head stands at the depth of its class's members, and its end at the same one. */
    private static String longMethods(List<String> lines) {
        StringBuilder found = new StringBuilder("[");
        for (int start = 0; start < lines.size(); start++) {
            String line = lines.get(start);
            if (!line.endsWith(") {") && !line.endsWith("Exception {") || !line.matches(" {4}( {4})?\\w.*")) {
                continue;
            }
            String end = line.substring(0, line.length() - line.stripLeading().length()) + "}";
            int last = start;
            while (last < lines.size() && !lines.get(last).equals(end)) {
                last++;
            }
            if (last - start > MOST_LINES) {
                found.append(line.strip());
            }
        }
        return found.append("]").toString();
    }
}
