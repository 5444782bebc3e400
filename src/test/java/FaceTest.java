import java.io.IOException;
import java.lang.reflect.Constructor;
import java.lang.reflect.Field;
import java.lang.reflect.Method;
import java.lang.reflect.Modifier;
import java.nio.file.Files;
import java.nio.file.Path;
import java.util.Set;
import java.util.TreeSet;
import java.util.regex.Matcher;
import java.util.regex.Pattern;

/** The public face as ../shared/DOC.md writes it out, and the heads of its promises, against the class. */
public final class FaceTest {
    private static final Path DOC = Path.of("../shared/DOC.md");
    private static final Pattern CALL = Pattern.compile("public (int|long) (\\w+)\\(([^)]*)\\);");
    private static final Pattern CONSTANT = Pattern.compile("([A-Z]+) = (-?\\d+)");
    private static final Pattern PROMISE = Pattern.compile("(?m)^## Promise (\\d+): .*\\R\\R`(?:(int|long) )?(\\w+)\\(([^)]*)\\)`");
    private static final int CALLS = 27, PROMISES = 28;
    private static final Dues DUES = new Dues();

    public static void main(String[] args) throws IOException, IllegalAccessException {
        DUES.begin("face");
        String doc = Files.readString(DOC);
        int start = doc.indexOf("public final class HardEnvoys {");
        DUES.due("the document has a face", start >= 0 ? 1 : 0, 1);
        String face = doc.substring(Math.max(0, start), doc.indexOf("```", Math.max(0, start)));
        Set<String> calls = callsOfClass();
        same("the face", callsIn(face), calls);
        DUES.due("calls", calls.size(), CALLS);
        same("the constants", constantsIn(face), constantsOfClass());
        promises(doc, calls);
        made();
        DUES.end();
    }

    private static void same(String what, Set<String> told, Set<String> there) {
        DUES.due(what + ": told " + told + ", there " + there, told.equals(there) ? 1 : 0, 1);
    }

    private static String head(String answer, String name, int numbers) {
        return answer + " " + name + "/" + numbers;
    }

    /** All parameters of the face are int. */
    private static int numbersOf(String parameters) {
        int numbers = 0;
        for (String parameter : parameters.isEmpty() ? new String[0] : parameters.split(", ")) {
            DUES.due("an int: " + parameter, parameter.startsWith("int ") ? 1 : 0, 1);
            numbers++;
        }
        return numbers;
    }

    private static Set<String> callsIn(String face) {
        Set<String> calls = new TreeSet<>();
        Matcher call = CALL.matcher(face);
        while (call.find()) {
            calls.add(head(call.group(1), call.group(2), numbersOf(call.group(3))));
        }
        return calls;
    }

    private static Set<String> callsOfClass() {
        Set<String> calls = new TreeSet<>();
        for (Method method : HardEnvoys.class.getDeclaredMethods()) {
            if (Modifier.isPublic(method.getModifiers())) {
                calls.add(head(method.getReturnType().toString(), method.getName(), method.getParameterCount()));
                DUES.due(method + " is of an object", Modifier.isStatic(method.getModifiers()) ? 1 : 0, 0);
                DUES.due(method + " declares exceptions", method.getExceptionTypes().length, 0);
                for (Class<?> parameter : method.getParameterTypes()) {
                    DUES.due(method + " takes ints", parameter == int.class ? 1 : 0, 1);
                }
            }
        }
        return calls;
    }

    private static Set<String> constantsIn(String face) {
        Set<String> constants = new TreeSet<>();
        Matcher constant = CONSTANT.matcher(face);
        while (constant.find()) {
            constants.add("int " + constant.group(1) + " = " + constant.group(2));
        }
        return constants;
    }

    private static Set<String> constantsOfClass() throws IllegalAccessException {
        Set<String> constants = new TreeSet<>();
        for (Field field : HardEnvoys.class.getDeclaredFields()) {
            if (Modifier.isPublic(field.getModifiers())) {
                constants.add(field.getType() + " " + field.getName() + " = " + field.get(null));
                boolean fixed = Modifier.isStatic(field.getModifiers()) && Modifier.isFinal(field.getModifiers());
                DUES.due(field + " is static and final", fixed ? 1 : 0, 1);
            }
        }
        return constants;
    }

    /** Promise 1 is the constructor; each other one is of one call of the face. */
    private static void promises(String doc, Set<String> calls) {
        Set<String> promised = new TreeSet<>();
        Matcher promise = PROMISE.matcher(doc);
        int found = 0;
        while (promise.find()) {
            found++;
            DUES.due("the number of a promise", Integer.parseInt(promise.group(1)), found);
            if (promise.group(2) != null) {
                promised.add(head(promise.group(2), promise.group(3), numbersOf(promise.group(4))));
            }
        }
        DUES.due("promises", found, PROMISES);
        same("the promises", promised, calls);
    }

    private static void made() {
        Constructor<?>[] constructors = HardEnvoys.class.getDeclaredConstructors();
        DUES.due("constructors", constructors.length, 1);
        for (Constructor<?> constructor : constructors) {
            DUES.due("public", Modifier.isPublic(constructor.getModifiers()) ? 1 : 0, 1);
            DUES.due("its parameters", constructor.getParameterCount(), 0);
        }
        DUES.due("the class is public and final", HardEnvoys.class.getModifiers(), Modifier.PUBLIC | Modifier.FINAL);
        DUES.due("it stands in no package", HardEnvoys.class.getPackageName().isEmpty() ? 1 : 0, 1);
    }
}
