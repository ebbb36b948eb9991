import java.nio.file.Files;
import java.nio.file.Path;
import java.util.Set;
import java.util.regex.Matcher;
import java.util.regex.Pattern;

/** The rules of ../shared/LANGUAGE.md that can be read off the text of the class. */
public final class LanguageTest {
    private static final Path SOURCE = Path.of("src/main/java/ConditionText.java");
    private static final int METHOD_LINES_MOST = 60;
    private static final int PARAMETERS_MOST = 7;
    private static final int CLASSES_MOST = 12;
    // Of what rule 4 allows, what the class uses: whoever needs more looks there first.
    private static final Set<String> LIBRARY = Set.of("Arrays.fill", "Math.max");
    private static int wrong = 0;

    public static void main(String[] args) throws Exception {
        String text = Files.readString(SOURCE);
        String code = text.replaceAll("(?s)/\\*.*?\\*/", "").replaceAll("//[^\n]*", "");
        checkWords(code);
        checkLibrary(code);
        checkLoops(code);
        checkMethods(text);
        if (wrong > 0) {
            System.exit(1);
        }
    }

    private static void checkWords(String code) {
        for (String word : new String[] {"package", "throw", "throws", "try", "catch", "finally", "synchronized", "assert",
            "protected", "double", "float", "equals", "hashCode", "toString"}) {
            check("no " + word, count("\\b" + word + "\\b", code) == 0);
        }
        check("rule 1: one public class", count("\\bpublic\\b[^(\n]*\\bclass\\b", code) == 1);
        check("rule 2: no lambda, no method reference", !code.contains("->") && !code.contains("::"));
        check("rule 3: no cast", count("\\((int|long|short|byte|char|[A-Z]\\w*[a-z]\\w*)\\)", code) == 0);
        check("rule 11: not too many classes", count("\\b(class|enum|record|interface)\\b", code) <= CLASSES_MOST);
    }

    private static void checkLibrary(String code) {
        Matcher imports = Pattern.compile("\\bimport\\s+([^;]*);").matcher(code);
        while (imports.find()) {
            check("rule 4: import of " + imports.group(1), imports.group(1).equals("java.util.Arrays"));
        }
        Matcher uses = Pattern.compile("\\b([A-Z]\\w*[a-z]\\w*\\.\\w+)\\b").matcher(code);
        while (uses.find()) {
            check("rule 4: use of " + uses.group(1), LIBRARY.contains(uses.group(1)));
        }
    }

    /** A for has a counter against a bound in its head; the one while goes down from the top. */
    private static void checkLoops(String code) {
        check("rule 9: a for has a bound", count("\\bfor \\(", code) == count("\\bfor \\(int (\\w+) = 0; \\1 < \\w+", code));
        check("rule 9: no do", count("\\bdo\\b", code) == 0);
        check("rule 9: a while goes down",
            count("\\bwhile \\(", code) == count("\\bwhile \\(top >= 0 [^{]*\\{\\s*top--;\\s*\\}", code));
    }

    private static void checkMethods(String text) {
        String[] lines = text.split("\n");
        Pattern head = Pattern.compile("( +)[\\w\\[\\] ]*\\b(\\w+)\\(([^)]*)\\) \\{");
        int found = 0;
        for (int i = 0; i < lines.length; i++) {
            Matcher method = head.matcher(lines[i]);
            if (!method.matches() || method.group(2).matches("if|for|while|switch")) {
                continue;
            }
            found++;
            int last = i;
            while (last < lines.length && !lines[last].equals(method.group(1) + "}")) {
                last++;
            }
            check("rule 11: " + method.group(2) + " is short", last - i < METHOD_LINES_MOST);
            check("rule 11: " + method.group(2) + " has few parameters",
                method.group(3).split(",").length <= PARAMETERS_MOST);
        }
        check("the test has found the methods", found > ConditionText.class.getDeclaredMethods().length);
    }

    private static int count(String pattern, String code) {
        Matcher found = Pattern.compile(pattern).matcher(code);
        int n = 0;
        while (found.find()) {
            n++;
        }
        return n;
    }

    private static void check(String what, boolean holds) {
        if (!holds) {
            wrong++;
            System.out.println("not so: " + what);
        }
    }
}
