import java.io.IOException;
import java.lang.reflect.Method;
import java.lang.reflect.Modifier;
import java.nio.file.Files;
import java.nio.file.Path;
import java.util.regex.Matcher;
import java.util.regex.Pattern;

/** What README.md shows of the class: its example is run, and it names each call of the face. */
public final class ReadmeTests {
    private static final Pattern TYPED = Pattern.compile("\"([^\"]+)\"\\.toCharArray");
    private static final Pattern CALL = Pattern.compile("gauge\\.(\\w+\\([^)]*\\));\\s+// (-?\\d+).*");
    private static final int CALLS = 25, FEWEST_SHOWN = 8;

    private static final Check check = new Check("ReadmeTests");

    private ReadmeTests() { }

    public static void main(String[] args) throws IOException {
        String readme = Files.readString(Path.of("README.md"));
        example(readme);
        eachCallIsNamed(readme);
        check.end();
    }

    private static void example(String readme) {
        check.part("the example");
        EarlyGauge gauge = new EarlyGauge();
        int shown = 0;
        for (String line : readme.split("\n")) {
            Matcher typed = TYPED.matcher(line);
            if (typed.find()) {
                Check.type(gauge, typed.group(1));
            }
            Matcher call = CALL.matcher(line);
            if (call.matches()) {
                check.due(call.group(1), Answers.of(gauge, call.group(1)), Long.parseLong(call.group(2)));
                shown++;
            }
        }
        check.holds("it shows some calls", shown >= FEWEST_SHOWN);
    }

    private static void eachCallIsNamed(String readme) {
        check.part("the calls");
        int named = 0;
        for (Method method : EarlyGauge.class.getDeclaredMethods()) {
            if (Modifier.isPublic(method.getModifiers())) {
                check.holds(method.getName() + " is named", readme.contains("`" + method.getName() + "("));
                named++;
            }
        }
        check.due("calls of the face", named, CALLS);
    }
}
