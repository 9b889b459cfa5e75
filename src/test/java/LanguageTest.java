import java.nio.file.Files;
import java.nio.file.Path;
import java.util.List;
import java.util.regex.Matcher;
import java.util.regex.Pattern;

/** What of LANGUAGE.md can be seen in the text of the class. Run from the project's root. */
public final class LanguageTest {
    private static final int LONGEST_METHOD = 60;
    private static final int MOST_CLASSES = 12;
    private static final int MOST_PARAMETERS = 7;

    private LanguageTest() {
    }

    public static void main(String[] args) throws Exception {
        Check.part("language");
        String text = Files.readString(Path.of("src/main/java/GrowHouse.java"));
        String code = text.replaceAll("(?s)/\\*.*?\\*/", "").replaceAll("//[^\n]*", "").replaceAll("\"[^\"]*\"", "\"\"");
        String[] never = {"->", "::", "\\bfinally\\b", "\\btry\\b", "\\bcatch\\b", "\\bsynchronized\\b", "\\bassert\\b",
            "\\bpackage\\b", "\\bprotected\\b", "\"\" *\\+", "\\+ *\"\"", "static *\\{", "\\bvar\\b", "\\bMath\\.\\w+Exact\\b",
            "\\bhashCode\\b", "\\btoString\\b", "\\bordinal\\b", "\\bSystem\\.(?!arraycopy\\b)", "\\bwhile *\\(true\\)"};
        for (String pattern : never) {
            Check.no("has " + pattern, Pattern.compile(pattern).matcher(code).find());
        }
        for (String line : code.split("\n")) {
            if (line.startsWith("import ")) {
                Check.yes(line, List.of("import java.util.Arrays;", "import java.util.NoSuchElementException;").contains(line));
            }
            if (line.contains("throw ")) {
                Check.is(line, line.trim().equals("throw new NoSuchElementException();") ? 1 : 0, 1);
            }
            if (line.contains(" static ") && line.contains(" = ")) {
                Check.yes(line, line.contains(" final "));
            }
        }
        Check.yes("ASCII alone", text.chars().allMatch(c -> c < 128));
        Check.yes("classes", Pattern.compile("\\b(class|enum|record|interface) [A-Z]").matcher(code).results().count() <= MOST_CLASSES);
        methods(code.split("\n"));
        Check.end("LanguageTest");
    }

    /** A method begins with a line that ends in ") {" and ends with a brace as far in as that line. */
    private static void methods(String[] lines) {
        Pattern head = Pattern.compile("^( {4}| {8})(?!(if|for|while|switch) )(?=\\w)[\\w\\[\\] ]+\\(([^)]*)\\).* ?\\{$");
        for (int i = 0; i < lines.length; i++) {
            Matcher found = head.matcher(lines[i]);
            if (found.find() && !lines[i].contains(" = ")) {
                int end = i;
                while (end < lines.length && !lines[end].equals(found.group(1) + "}")) {
                    end++;
                }
                Check.yes(lines[i].trim() + " is short", end - i < LONGEST_METHOD);
                Check.yes(lines[i].trim() + " has few parameters", found.group(3).split(",").length <= MOST_PARAMETERS);
            }
        }
    }
}
