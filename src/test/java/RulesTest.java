import java.io.IOException;
import java.nio.file.Files;
import java.nio.file.Path;
import java.util.List;
import java.util.regex.Matcher;
import java.util.regex.Pattern;

/** Some rules of ../shared/LANGUAGE.md, as far as they can be seen in the lines of the source. */
public final class RulesTest {
    private static final Path SOURCE = Path.of("src/main/java/ShiftIsles.java");

    private static final String[] FORBIDDEN = {
        "\\bimport\\b", "\\bpackage\\b", "->", "::", "\\btry\\b", "\\bcatch\\b", "\\bfinally\\b",
        "\\bsynchronized\\b", "\\bassert\\b", "\\bstatic \\{", "\\bThread\\b", "\\bSystem\\.(?!arraycopy)",
        "\\bRandom\\b", "[a-z]Exact\\b", "\\bprotected\\b", "\\bwhile\\b", "[^\\x00-\\x7f]",
    };

    /** The static members of the library that the class uses; others must be looked up first. */
    private static final Pattern USE =
            Pattern.compile("\\b(Integer|Long|Math|Arrays|System|List|String|Character|Objects)\\.\\w+");
    private static final List<String> LIBRARY = List.of(
            "Integer.bitCount", "Math.abs", "Math.min", "System.arraycopy");

    public static void main(String[] args) throws IOException {
        List<String> lines = Files.readAllLines(SOURCE);
        for (String line : lines) {
            for (String pattern : FORBIDDEN) {
                Check.no(pattern + " in: " + line, Pattern.compile(pattern).matcher(line).find());
            }
            for (Matcher use = USE.matcher(line); use.find();) {
                Check.yes("of the library: " + use.group(), LIBRARY.contains(use.group()));
            }
            Check.yes("a line of at most 100 characters: " + line, line.length() <= 100);
        }
        methodsAreShort(lines);
        classesAreFew(lines);
        Check.end();
    }

    private static void methodsAreShort(List<String> lines) {
        int begin = -1;
        String indent = "";
        for (int i = 0; i < lines.size(); i++) {
            String line = lines.get(i);
            Matcher head = Pattern.compile("^( {4}| {8})[^ *@/}].*\\{$").matcher(line);
            if (head.find() && !line.contains(" class ") && begin < 0) {
                begin = i;
                indent = head.group(1);
            } else if (begin >= 0 && line.equals(indent + "}")) {
                Check.yes("short: " + lines.get(begin), i - begin < 60);
                begin = -1;
            }
        }
    }

    private static void classesAreFew(List<String> lines) {
        int classes = 0;
        for (String line : lines) {
            classes += line.matches(" *(public|private static) final class .*") ? 1 : 0;
        }
        Check.yes("classes: " + classes, classes >= 1 && classes <= 12);
    }
}
