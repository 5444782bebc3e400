import java.io.IOException;
import java.lang.reflect.Method;
import java.lang.reflect.Modifier;
import java.nio.file.Files;
import java.nio.file.Path;
import java.util.ArrayList;
import java.util.List;
import java.util.Set;
import java.util.TreeSet;
import java.util.regex.Matcher;
import java.util.regex.Pattern;

/**
 * README.md: each call that it shows answers what it tells; every call of the class is shown; its table of
 * the nine numbers is right; its list of tests names all of them.
 */
public final class ReadmeTest {
    private static final Path README = Path.of("README.md");
    private static final Path TESTS = Path.of("src/test/java");
    private static final Pattern MADE = Pattern.compile("HardEnvoys x = new HardEnvoys\\(\\);");
    private static final Pattern SHOWN = Pattern.compile("x\\.(\\w+)\\((.*)\\); +// (-?\\d+)(:.*)?");
    private static final Pattern NUMBER = Pattern.compile("-?\\d+");
    private static final Pattern ROW = Pattern.compile("\\| (\\d) \\| [A-Z]+ \\| (-?\\d+) \\.\\. (\\d+) \\| (\\d+) \\|.*");
    private static final Pattern TEST_NAME = Pattern.compile("`(\\w+Test)`");
    private static final int MOST_CALLS = 512, NINE = 9, BAD_PUT = -1000;
    private static final Dues DUES = new Dues();

    private final Set<String> shown = new TreeSet<>();
    private HardEnvoys x = null;
    private int calls = 0;

    public static void main(String[] args) throws IOException {
        DUES.begin("README");
        List<String> lines = Files.readAllLines(README);
        ReadmeTest test = new ReadmeTest();
        test.blocks(lines);
        DUES.due("calls shown: " + test.shown, test.shown.equals(face()) ? 1 : 0, 1);
        numbers(lines);
        tests(lines);
        DUES.due("lines that tell how to run the tests", count(lines, "`bash .ci/run`"), 1);
        DUES.end();
    }

    private static Set<String> face() {
        Set<String> names = new TreeSet<>();
        for (Method method : HardEnvoys.class.getDeclaredMethods()) {
            if (Modifier.isPublic(method.getModifiers())) {
                names.add(method.getName());
            }
        }
        return names;
    }

    private static int count(List<String> lines, String part) {
        int found = 0;
        for (String line : lines) {
            found += line.contains(part) ? 1 : 0;
        }
        return found;
    }

    /** Each block of Java is a run of calls on an object that it makes itself. */
    private void blocks(List<String> lines) {
        boolean within = false;
        for (String line : lines) {
            if (line.startsWith("```")) {
                within = line.equals("```java");
                x = null;
            } else if (within) {
                line(line);
            }
        }
    }

    private void line(String line) {
        Matcher call = SHOWN.matcher(line);
        if (MADE.matcher(line).matches()) {
            x = new HardEnvoys();
            calls = 0;
        } else if (x != null && call.matches() && arity(call.group(1)) == numbersIn(call.group(2)).length) {
            calls++;
            shown.add(call.group(1));
            long got = Calls.of(x, call.group(1), numbersIn(call.group(2)));
            DUES.due(line, got, Long.parseLong(call.group(3)));
            DUES.due("calls of one object are promised: " + calls, calls <= MOST_CALLS ? 1 : 0, 1);
        } else {
            DUES.due("a call with its answer: " + line, 0, 1);
        }
    }

    /** How many numbers a public call takes; -1: there is no such call. */
    private static int arity(String name) {
        for (Method method : HardEnvoys.class.getDeclaredMethods()) {
            if (Modifier.isPublic(method.getModifiers()) && method.getName().equals(name)) {
                return method.getParameterCount();
            }
        }
        return -1;
    }

    private static int[] numbersIn(String text) {
        if (text.isEmpty()) {
            return new int[0];
        }
        String[] parts = text.split(", ");
        int[] numbers = new int[parts.length];
        for (int at = 0; at < parts.length; at++) {
            numbers[at] = number(parts[at]);
        }
        return numbers;
    }

    private static int number(String part) {
        if (part.equals("HardEnvoys.NONE")) {
            return HardEnvoys.NONE;
        }
        if (part.length() == 3 && part.charAt(0) == '\'' && part.charAt(2) == '\'') {
            return part.charAt(1);
        }
        DUES.due("a number: " + part, NUMBER.matcher(part).matches() ? 1 : 0, 1);
        return NUMBER.matcher(part).matches() ? Integer.parseInt(part) : 0;
    }

    private static void numbers(List<String> lines) {
        int rows = 0;
        for (String line : lines) {
            Matcher row = ROW.matcher(line);
            if (row.matches()) {
                int what = Integer.parseInt(row.group(1));
                int least = Integer.parseInt(row.group(2));
                int most = Integer.parseInt(row.group(3));
                DUES.due("the place of " + line, what, rows);
                new Run(DUES, "README: " + line).is(Integer.parseInt(row.group(4)), "put", 0, 0, what, least)
                        .refuses(BAD_PUT, "put", 0, 0, what, least - 1).is(least, "put", 0, 0, what, most)
                        .refuses(BAD_PUT, "put", 0, 0, what, most + 1).is(most, "put", 0, 0, what, most);
                rows++;
            }
        }
        DUES.begin("README");
        DUES.due("rows of numbers", rows, NINE);
    }

    private static void tests(List<String> lines) throws IOException {
        Set<String> named = new TreeSet<>();
        for (String line : lines) {
            Matcher name = TEST_NAME.matcher(line);
            while (name.find()) {
                named.add(name.group(1));
            }
        }
        List<Path> files = new ArrayList<>();
        try (var found = Files.newDirectoryStream(TESTS, "*Test.java")) {
            found.forEach(files::add);
        }
        Set<String> there = new TreeSet<>();
        for (Path file : files) {
            there.add(file.getFileName().toString().replace(".java", ""));
        }
        DUES.due("tests named " + named + ", there are " + there, named.equals(there) ? 1 : 0, 1);
    }
}
