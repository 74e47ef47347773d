import java.io.IOException;
import java.nio.charset.StandardCharsets;
import java.nio.file.Files;
import java.nio.file.Path;
import java.util.Set;
import java.util.TreeSet;
import java.util.regex.Matcher;
import java.util.regex.Pattern;

/** The program's text keeps to those rules of ../shared/LANGUAGE.md that its text can tell. */
public final class LanguageTest {
    private static final Path PROGRAM = Path.of("src/main/java/DetentCabinet.java");

    private static final Set<String> OTHER_LIBRARY = Set.of("System.arraycopy(", "Arrays.copyOf(",
        "Arrays.copyOfRange(", "Arrays.fill(", "List.of(");
    private static final int MOST_PARAMETERS = 7;
    private static final int MOST_LINES = 60;
    private static final int MOST_CLASSES = 12;

    private static int wrong = 0;

    public static void main(String[] args) throws IOException {
        String code = withoutComments(Files.readString(PROGRAM, StandardCharsets.UTF_8));
        checkNothingOf(code, "rule 1", "\\bpackage\\b");
        checkNothingOf(code, "rule 2", "->", "::");
        checkNothingOf(code, "rule 4", "\\bimport\\b", "\\bjava\\.");
        checkNothingOf(code, "rule 5", "\\bstatic\\s*\\{");
        // The document asks for no exception at all, so none is thrown and none is caught.
        checkNothingOf(code, "rule 6", "\\bthrows?\\b", "\\btry\\b", "\\bcatch\\b", "\\bfinally\\b",
            "\\bsynchronized\\b", "\\bassert\\b");
        checkLibrary(code);
        checkMethods(code);
        checkClasses(code);
        System.out.println(wrong == 0 ? "the program keeps to the language" : wrong + " rules broken");
        if (wrong != 0) {
            System.exit(1);
        }
    }

    private static void tell(String fault) {
        wrong++;
        System.out.println(fault);
    }

    private static String withoutComments(String text) {
        return text.replaceAll("(?s)/\\*.*?\\*/", "").replaceAll("//[^\n]*", "");
    }

    private static void checkNothingOf(String code, String rule, String... patterns) {
        for (String pattern : patterns) {
            Matcher found = Pattern.compile(pattern).matcher(code);
            if (found.find()) {
                tell(rule + ": " + found.group());
            }
        }
    }

    /** Rule 4 lists functions alone, so a constant such as Integer.MAX_VALUE is outside it. */
    private static void checkLibrary(String code) {
        Set<String> own = ownClasses(code);
        Matcher use = Pattern.compile("\\b([A-Z]\\w*)\\.(\\w+)(\\()?").matcher(code);
        while (use.find()) {
            if (!own.contains(use.group(1)) && !isListed(use.group(1), use.group())) {
                tell("rule 4: " + use.group());
            }
        }
    }

    private static boolean isListed(String type, String use) {
        boolean ofNumbers = Set.of("Math", "Integer", "Long").contains(type);
        return OTHER_LIBRARY.contains(use)
            || ofNumbers && use.endsWith("(") && !use.endsWith("Exact(");
    }

    private static Set<String> ownClasses(String code) {
        Set<String> own = new TreeSet<>();
        Matcher header = Pattern.compile("\\b(?:class|enum|record|interface) (\\w+)").matcher(code);
        while (header.find()) {
            own.add(header.group(1));
        }
        return own;
    }

    private static void checkClasses(String code) {
        int classes = ownClasses(code).size();
        if (classes > MOST_CLASSES) {
            tell("rule 11: " + classes + " classes");
        }
    }

    private static void checkMethods(String code) {
        Matcher header = Pattern.compile("(?m)^( +)[\\w \\[\\]]*?(\\w+)\\(([\\w\\[\\], ]*)\\) \\{$")
            .matcher(code);
        int methods = 0;
        while (header.find()) {
            methods++;
            String name = header.group(2);
            if (header.group(3).split(",").length > MOST_PARAMETERS) {
                tell("rule 11: too many parameters of " + name);
            }
            int end = code.indexOf("\n" + header.group(1) + "}", header.end());
            if (end < 0 || code.substring(header.start(), end).lines().count() > MOST_LINES) {
                tell("rule 11: too many lines of " + name);
            }
        }
        // So that a header of another form is not passed over in silence.
        if (methods < 11) {
            tell("only " + methods + " methods were found");
        }
    }
}
