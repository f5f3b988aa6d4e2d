import java.io.IOException;
import java.nio.file.Files;
import java.nio.file.Path;
import java.util.List;
import java.util.Set;
import java.util.regex.Matcher;
import java.util.regex.Pattern;

/** The rules of LANGUAGE.md that can be seen in the program's text. */
public final class LanguageTest {
    private static final Path SOURCE = Path.of("src/main/java/MakerGuard.java");
    private static final List<String> FORBIDDEN = List.of("->", "::", "\\btry\\b", "\\bcatch\\b", "\\bfinally\\b",
            "\\bsynchronized\\b", "\\bassert\\b", "\\bpackage\\b", "\\bprotected\\b", "\\bvar\\b", "\\bstatic \\{", "\\bLong\\b",
            "\\bObject\\b", "\\bhashCode\\b", "\\btoString\\b", "\\bequals\\b", "\\bSystem\\.(?!arraycopy\\b)",
            "\\bArrays\\.(?!fill\\b|copyOf\\b|copyOfRange\\b)", "\\bMath\\.(?!max\\b|min\\b|abs\\b)", "\\[\\]\\[\\]\\[\\]");
    private static final Set<String> IMPORTS = Set.of("import java.util.Arrays;", "import java.util.NoSuchElementException;");
    private static final int LONGEST_METHOD = 60;
    private static final int MOST_CLASSES = 12;

    public static void main(String[] args) throws IOException {
        String text = Files.readString(SOURCE);
        String code = text.replaceAll("(?s)/\\*.*?\\*/", "").replaceAll("//[^\n]*", "").replaceAll("\"[^\"\n]*\"", "\"\"");
        for (String pattern : FORBIDDEN) {
            Check.due("found " + pattern, Pattern.compile(pattern).matcher(code).find(), false);
        }
        for (String line : code.split("\n")) {
            Check.due("import: " + line, line.startsWith("import ") && !IMPORTS.contains(line), false);
        }
        Check.due("classes", count(code, "\\bclass \\w+") <= MOST_CLASSES, true);
        Check.due("one public class", count(code, "\\bpublic (final )?class\\b"), 1);
        Check.due("static fields that are not final", count(code, "\\bstatic (?!final\\b)[\\w\\[\\]]+ \\w+\\s*[=;]"), 0);
        noNewInMethods(code);
        methodsAreShort(code);
        Check.finish();
    }

    private static int count(String code, String pattern) {
        Matcher matcher = Pattern.compile(pattern).matcher(code);
        int found = 0;
        while (matcher.find()) {
            found++;
        }
        return found;
    }

    /** All rows are made in constructors: whatever else is made is an exception or stands in a field's line. */
    private static void noNewInMethods(String code) {
        boolean inConstructor = false;
        for (String line : code.split("\n")) {
            if (line.matches("\\s*(public )?[A-Z]\\w*\\(.*\\) \\{")) {
                inConstructor = true;
            } else if (line.matches("\\s*[a-zA-Z].*\\) (throws .*)?\\{") && !line.matches("\\s*(for|if|while|switch)\\b.*")) {
                inConstructor = false;
            }
            boolean makes = line.matches(".*\\bnew\\b.*");
            boolean may = inConstructor || line.contains("throw new") || line.matches("\\s*(private )?final .*= new .*;");
            Check.due("made outside a constructor: " + line, makes && !may, false);
        }
    }

    private static void methodsAreShort(String code) {
        String[] lines = code.split("\n");
        for (int k = 0; k < lines.length; k++) {
            if (lines[k].matches("( {4}| {8})[a-zA-Z].*\\{") && !lines[k].contains("class ")) {
                String end = lines[k].replaceAll("\\S.*", "") + "}";
                int last = k;
                while (last < lines.length && !lines[last].equals(end)) {
                    last++;
                }
                Check.due("lines of " + lines[k].trim(), last - k < LONGEST_METHOD, true);
            }
        }
    }
}
