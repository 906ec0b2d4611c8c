import java.io.IOException;
import java.lang.reflect.Method;
import java.lang.reflect.Modifier;
import java.nio.file.Files;
import java.nio.file.Path;
import java.util.ArrayList;
import java.util.List;
import java.util.regex.Matcher;
import java.util.regex.Pattern;

/** README.md tells of every call, and its example answers what it says. */
public final class ReadmeTest {
    private static final String[] EXAMPLE = {
        "OverrideRules rules = new OverrideRules();",
        "int face = rules.type(2, 0, OverrideRules.NONE);",
        "int type = rules.type(0, 0, OverrideRules.NONE);",
        "rules.face(type, face);",
        "int asked = rules.member(face, 0, 16, 32);",
        "int given = rules.member(type, 0, 16, 0);",
        "rules.overrides(given, asked);",
        "rules.check(type);",
        "rules.fault(type, 0, 0);",
        "rules.fault(type, 0, 1);",
        "rules.fault(type, 0, 2);",
        "rules.chosen(type, asked);",
    };

    public static void main(String[] args) throws IOException {
        Due due = new Due();
        String readme = Files.readString(Path.of("README.md"));
        exampleIsTheOneTestedHere(due, readme);
        exampleAnswersWhatItSays(due);
        everyCallIsTold(due, readme);
        everyTestIsTold(due, readme);
        due.holds("how to run the tests", readme.contains("\n.ci/run\n"));
        due.end();
    }

    private static void exampleIsTheOneTestedHere(Due due, String readme) {
        Matcher block = Pattern.compile("```java\n(.*?)```", Pattern.DOTALL).matcher(readme);
        due.holds("an example", block.find());
        List<String> calls = new ArrayList<>();
        for (String line : block.group(1).split("\n")) {
            calls.add(line.replaceAll("//.*", "").strip());
        }
        due.holds("the example " + calls, calls.equals(List.of(EXAMPLE)));
    }

    private static void exampleAnswersWhatItSays(Due due) {
        OverrideRules rules = new OverrideRules();
        int face = rules.type(2, 0, OverrideRules.NONE);
        int type = rules.type(0, 0, OverrideRules.NONE);
        due.is("face", rules.face(type, face), 1);
        int asked = rules.member(face, 0, 16, 32);
        int given = rules.member(type, 0, 16, 0);
        due.holds("two members", asked == 0 && given == 1);
        due.is("overrides", rules.overrides(given, asked), 1);
        due.is("check", rules.check(type), 1);
        due.is("fault, code", rules.fault(type, 0, 0), 3);
        due.is("fault, m", rules.fault(type, 0, 1), given);
        due.is("fault, o", rules.fault(type, 0, 2), asked);
        due.is("chosen", rules.chosen(type, asked), given);
    }

    private static void everyCallIsTold(Due due, String readme) {
        for (Method method : OverrideRules.class.getDeclaredMethods()) {
            if (Modifier.isPublic(method.getModifiers())) {
                due.holds(method.getName(), readme.contains("\n| `" + method.getName() + "("));
            }
        }
    }

    private static void everyTestIsTold(Due due, String readme) throws IOException {
        try (var files = Files.list(Path.of("src/test/java"))) {
            for (Path file : (Iterable<Path>) files::iterator) {
                String name = file.getFileName().toString().replace(".java", "");
                due.holds(name, readme.contains("`" + name + "`"));
            }
        }
    }
}
