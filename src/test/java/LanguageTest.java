import java.io.IOException;
import java.nio.file.Files;
import java.nio.file.Path;
import java.util.regex.Matcher;
import java.util.regex.Pattern;

/** What a plain look at the file's text can tell of the rules of LANGUAGE.md. */
public final class LanguageTest {
    private static final String[] LEFT_OUT = {
        "\\bpackage\\b", "\\bimport\\b", "\\bthrow\\b", "\\bthrows\\b", "\\btry\\b", "\\bcatch\\b",
        "\\bsynchronized\\b", "\\bassert\\b", "\\bvolatile\\b", "\\bnative\\b", "->", "::",
        "\\bstatic\\s*\\{", "\\bprotected\\b", "\\bequals\\b", "\\bhashCode\\b", "\\btoString\\b",
        "\\bSystem\\.", "\\bThread\\b", "\\w+Exact\\b", "\\bObject\\b", "[^\\x00-\\x7f]",
    };
    /** Allowed behind a test; but what the class does without, the machine can't throw at. */
    private static final String[] NOT_NEEDED = {
        "/", "%", "\\bnull\\b", "\\(\\s*(int|long|short|byte|char|[A-Z]\\w*)\\s*\\)\\s*\\w",
    };
    private static final Pattern LIBRARY = Pattern.compile("\\b(Math|Integer|Long|Arrays)\\.(\\w+)");
    private static final Pattern MADE = Pattern.compile("\\bnew (\\w+)");

    public static void main(String[] args) throws IOException {
        Due due = new Due();
        String text = Files.readString(Path.of("src/main/java/OverrideRules.java"));
        String code = text.replaceAll("(?s)/\\*.*?\\*/", "").replaceAll("//.*", "");
        hasNone(due, code, LEFT_OUT);
        hasNone(due, code, NOT_NEEDED);
        libraryIsAllowed(due, code);
        onlyConstructorsMakeObjects(due, code);
        due.end();
    }

    private static void hasNone(Due due, String code, String[] patterns) {
        for (String pattern : patterns) {
            due.is("how many " + pattern, count(pattern, code), 0);
        }
    }

    private static void libraryIsAllowed(Due due, String code) {
        Matcher used = LIBRARY.matcher(code);
        while (used.find()) {
            due.holds(used.group(), used.group().matches("Math\\.min|Integer\\.bitCount"));
        }
    }

    /** A call that made something would fill the one room in which all calls of a run live. */
    private static void onlyConstructorsMakeObjects(Due due, String code) {
        for (String line : code.split("\n")) {
            if (MADE.matcher(line).find()) {
                due.holds(line.strip(), line.matches(" +(private final int\\[\\] )?\\w+ = new .*;"));
            }
        }
        due.is("arrays", count("= new int\\[", code), 12);
        due.is("objects", count("= new [A-Z]\\w*\\(", code), 5);
    }

    private static int count(String pattern, String code) {
        return (int) Pattern.compile(pattern).matcher(code).results().count();
    }
}
