import java.io.IOException;
import java.lang.reflect.Constructor;
import java.lang.reflect.Field;
import java.lang.reflect.Method;
import java.lang.reflect.Modifier;
import java.nio.file.Files;
import java.nio.file.Path;
import java.util.Arrays;
import java.util.Set;
import java.util.TreeSet;

/** The face of the class, and those rules of LANGUAGE.md that a plain look can tell. */
public final class LanguageTests {
    private static final String[] FACE = {
        "int letter(int)", "int blank()", "int fault()", "int station()", "int follows(int,int)",
        "int reading(int)", "int told(int)", "int day(int)", "int person(int,int,int)",
        "int about(int,int)", "int as(int,int)", "long likely(int,int,int)", "int likeliest()",
        "int ways()", "int sure(int)", "long look(int,int,int)", "int book(int,int)", "int forget()",
        "int wrong(int)", "int earliest()", "int days(int,int,int)", "int image()", "int restore()",
        "int count(int)", "long digest()",
    };
    private static final String[] FORBIDDEN = {
        "import ", "package ", "->", "::", "Exact", "catch", "finally", "synchronized", "assert",
        "double", "float", "equals", "hashCode", "toString", "lambda", "record ", "while (true)",
        "for (;;)", "System.", "protected ", "@",
    };
    private static final int LONGEST_METHOD = 60;

    private static final Check check = new Check("LanguageTests");

    private LanguageTests() { }

    public static void main(String[] args) throws IOException {
        face();
        membersOfItsOwn();
        classesInside();
        source();
        check.end();
    }

    private static void face() {
        check.part("the face");
        Class<?> gauge = EarlyGauge.class;
        check.holds("public and final", gauge.getModifiers() == (Modifier.PUBLIC | Modifier.FINAL));
        check.holds("no package", gauge.getPackageName().isEmpty());
        Set<String> found = new TreeSet<>();
        for (Method method : gauge.getDeclaredMethods()) {
            if (!Modifier.isPrivate(method.getModifiers())) {
                check.holds(method + " is public alone", method.getModifiers() == Modifier.PUBLIC);
                found.add(signature(method));
            }
        }
        check.holds("methods " + found, found.equals(new TreeSet<>(Arrays.asList(FACE))));
        Constructor<?>[] made = gauge.getDeclaredConstructors();
        check.due("constructors", made.length, 1);
        check.holds("the constructor", Modifier.isPublic(made[0].getModifiers())
                && made[0].getParameterCount() == 0);
    }

    private static String signature(Method method) {
        StringBuilder text = new StringBuilder(method.getReturnType() + " " + method.getName() + "(");
        for (Class<?> type : method.getParameterTypes()) {
            text.append(text.charAt(text.length() - 1) == '(' ? "" : ",").append(type);
        }
        return text.append(')').toString();
    }

    private static void membersOfItsOwn() {
        check.part("rules 1 and 5");
        int constants = 0;
        for (Field field : EarlyGauge.class.getDeclaredFields()) {
            int how = field.getModifiers();
            if (Modifier.isPublic(how)) {
                constants++;
                check.holds(field + " is a constant", Modifier.isStatic(how) && Modifier.isFinal(how));
            } else {
                check.holds(field + " is private", Modifier.isPrivate(how));
            }
        }
        check.due("public constants", constants, 5);
        Set<String> names = new TreeSet<>();
        for (String method : FACE) {
            names.add(method.substring(method.indexOf(' ') + 1, method.indexOf('(')));
        }
        for (Class<?> inside : EarlyGauge.class.getDeclaredClasses()) {
            for (Method method : inside.getDeclaredMethods()) {
                check.holds(method + " bears no name of the face", !names.contains(method.getName()));
            }
        }
    }

    private static void classesInside() {
        check.part("rules 1, 2, 5 and 11");
        Class<?>[] classes = EarlyGauge.class.getDeclaredClasses();
        check.holds("twelve classes at most", classes.length + 1 <= 12);
        for (Class<?> inside : classes) {
            check.holds(inside + " is static", Modifier.isStatic(inside.getModifiers()));
            check.holds(inside + " is not public", !Modifier.isPublic(inside.getModifiers()));
            for (Field field : inside.getDeclaredFields()) {
                int how = field.getModifiers();
                check.holds(field + " is final if static", !Modifier.isStatic(how) || Modifier.isFinal(how));
            }
        }
    }

    private static void source() throws IOException {
        check.part("the source");
        String text = Files.readString(Path.of("src/main/java/EarlyGauge.java"));
        for (String word : FORBIDDEN) {
            check.holds("no '" + word + "'", !text.contains(word));
        }
        check.holds("signs 1 to 127", text.chars().allMatch(sign -> sign > 0 && sign < 128));
        int start = 0;
        String[] lines = text.split("\n");
        for (int i = 0; i < lines.length; i++) {
            boolean opens = lines[i].endsWith(") {") && lines[i].matches(" {4}( {4})?[a-zA-Z].*");
            start = opens ? i : start;
            if (lines[i].matches(" {4}( {4})?}")) {
                check.holds("the method behind line " + start + " is short", i - start <= LONGEST_METHOD);
            }
        }
    }
}
