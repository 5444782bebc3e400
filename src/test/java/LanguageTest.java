import java.io.IOException;
import java.lang.reflect.Constructor;
import java.lang.reflect.Field;
import java.lang.reflect.Method;
import java.lang.reflect.Modifier;
import java.nio.file.Files;
import java.nio.file.Path;
import java.util.Set;
import java.util.TreeSet;

/** What can be seen of ../shared/LANGUAGE.md in the source and in the compiled class. */
public final class LanguageTest {
    private static final String FACE = "best committee count digest edge envoy erase fault hard has lose lot "
            + "middle paid part put recall rest round set settle steps takes thought weight worth write";
    private static final String[] FORBIDDEN = {"\\bthrow\\b", "\\bthrows\\b", "\\btry\\b", "\\bcatch\\b",
        "\\bsynchronized\\b", "\\bassert\\b", "->", "::", "\\bimport\\b", "\\bpackage\\b", "Exact\\b",
        "\\bstatic\\s*\\{", "\\bThread\\b", "\\bRandom\\b", "\\bObject\\b", "\\bvar\\b", "@"};
    private static final int MOST_LINES = 60, MOST_PARAMETERS = 7, MOST_CLASSES = 12, MOST_FIELDS = 20;
    private static final Dues DUES = new Dues();

    public static void main(String[] args) throws IOException {
        DUES.begin("language");
        String source = Files.readString(Path.of("src/main/java/HardEnvoys.java"));
        String code = source.replaceAll("(?s)/\\*.*?\\*/", "").replaceAll("//[^\\n]*", "");
        for (String word : FORBIDDEN) {
            DUES.due("'" + word + "' in the code", code.split(word, -1).length - 1, 0);
        }
        DUES.due("signs beyond 126", source.chars().filter(c -> c > 126).count(), 0);
        face();
        classes();
        lengths(code);
        DUES.end();
    }

    private static void face() {
        Set<String> open = new TreeSet<>();
        Set<String> hidden = new TreeSet<>();
        for (Method method : HardEnvoys.class.getDeclaredMethods()) {
            (Modifier.isPublic(method.getModifiers()) ? open : hidden).add(method.getName());
            boolean told = Modifier.isPublic(method.getModifiers()) || Modifier.isPrivate(method.getModifiers());
            DUES.due(method.getName() + " is public or private", told || method.isSynthetic() ? 1 : 0, 1);
        }
        DUES.due("the face is " + open, String.join(" ", open).equals(FACE) ? 1 : 0, 1);
        hidden.retainAll(open);
        DUES.due("private methods with a public one's name: " + hidden, hidden.size(), 0);
        int constants = 0;
        for (Field field : HardEnvoys.class.getDeclaredFields()) {
            constants += Modifier.isPrivate(field.getModifiers()) || field.isSynthetic() ? 0 : 1;
        }
        DUES.due("fields that are not private", constants, 4);
        DUES.due("constructors", HardEnvoys.class.getDeclaredConstructors().length, 1);
        for (Constructor<?> constructor : HardEnvoys.class.getDeclaredConstructors()) {
            DUES.due("parameters of the constructor", constructor.getParameterCount(), 0);
        }
        DUES.due("public and final", HardEnvoys.class.getModifiers(), Modifier.PUBLIC | Modifier.FINAL);
    }

    private static void classes() {
        Class<?>[] inside = HardEnvoys.class.getDeclaredClasses();
        DUES.due("some classes at most", inside.length < MOST_CLASSES ? 1 : 0, 1);
        kept(HardEnvoys.class);
        for (Class<?> one : inside) {
            DUES.due(one.getSimpleName() + " is static", Modifier.isStatic(one.getModifiers()) ? 1 : 0, 1);
            kept(one);
        }
    }

    private static void kept(Class<?> one) {
        int fields = 0;
        for (Field field : one.getDeclaredFields()) {
            boolean fixed = Modifier.isStatic(field.getModifiers());
            fields += fixed ? 0 : 1;
            DUES.due(field + " is final if static", !fixed || Modifier.isFinal(field.getModifiers()) ? 1 : 0, 1);
        }
        DUES.due("fields of " + one.getSimpleName() + ": " + fields, fields <= MOST_FIELDS ? 1 : 0, 1);
        for (Method method : one.getDeclaredMethods()) {
            DUES.due("parameters of " + method, method.getParameterCount() <= MOST_PARAMETERS ? 1 : 0, 1);
        }
    }

    /** A method's body ends at the brace that stands as far in as its head. */
    private static void lengths(String code) {
        String[] lines = code.split("\n");
        for (int at = 0; at < lines.length; at++) {
            if (!lines[at].matches("( {4}| {8})[a-z].*\\(.*\\{") || lines[at].matches(" *(if|for|while|switch).*")) {
                continue;
            }
            String end = lines[at].replaceAll("\\S.*", "") + "}";
            int last = at;
            while (last < lines.length && !lines[last].equals(end)) {
                last++;
            }
            DUES.due("lines of " + lines[at].trim(), last - at < MOST_LINES ? 1 : 0, 1);
        }
    }
}
