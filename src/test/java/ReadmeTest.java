import java.io.IOException;
import java.lang.reflect.Method;
import java.lang.reflect.Modifier;
import java.nio.file.Files;
import java.nio.file.Path;
import java.util.ArrayList;
import java.util.List;
import java.util.regex.Matcher;
import java.util.regex.Pattern;

/** README.md tells every call with what it throws, and its example is true; started from the project's directory. */
public final class ReadmeTest {
    private static final Path README = Path.of("README.md");
    private static final Path THIS_TEST = Path.of("src", "test", "java", "ReadmeTest.java");
    private static final String BEGIN = "// the example begins";
    private static final String END = "// the example ends";

    public static void main(String[] args) throws IOException {
        List<String> readme = Files.readAllLines(README);
        callsAreTold(readme);
        constantsAreTold(String.join(" ", readme));
        testsAreTold(String.join("\n", readme));
        exampleIsTheOneRunHere(readme);
        example();
        Check.over();
    }

    private static void callsAreTold(List<String> readme) {
        int told = 0;
        for (String line : readme) {
            if (line.startsWith("| `")) {
                told++;
            }
        }
        int calls = 0;
        for (Method method : Archeloft.class.getDeclaredMethods()) {
            if (Modifier.isPublic(method.getModifiers())) {
                calls++;
                callIsTold(method, readme);
            }
        }
        Check.due("README: lines of calls", told, calls);
    }

    private static void callIsTold(Method method, List<String> readme) {
        String name = method.getName();
        String[] columns = columnsOf(name, readme);
        Check.due("README: columns of " + name, columns.length, 4);
        if (columns.length == 4) {
            Check.due("README: parameters of " + name, parametersIn(columns[1]), method.getParameterCount());
            Check.due("README: what " + name + " is for", columns[2].isBlank(), false);
            Check.due("README: what " + name + " throws", thrownIn(columns[3]), thrownBy(method));
        }
    }

    private static String[] columnsOf(String name, List<String> readme) {
        for (String line : readme) {
            if (line.startsWith("| `" + name + "(")) {
                return line.split("\\|");
            }
        }
        return new String[0];
    }

    private static int parametersIn(String call) {
        String inside = call.substring(call.indexOf('(') + 1, call.indexOf(')'));
        return inside.isBlank() ? 0 : inside.split(",").length;
    }

    private static String thrownIn(String column) {
        List<String> names = new ArrayList<>();
        Matcher found = Pattern.compile("`(\\w+Exception)` if ").matcher(column);
        while (found.find()) {
            names.add(found.group(1));
        }
        return names.isEmpty() ? column.trim() : names.toString();
    }

    private static String thrownBy(Method method) {
        List<String> names = new ArrayList<>();
        for (Class<?> thrown : method.getExceptionTypes()) {
            names.add(thrown.getSimpleName());
        }
        return names.isEmpty() ? "nothing" : names.toString();
    }

    private static void constantsAreTold(String readme) {
        constantIsTold(readme, "NONE", Archeloft.NONE);
        constantIsTold(readme, "ADD", Archeloft.ADD);
        constantIsTold(readme, "TAKE", Archeloft.TAKE);
        constantIsTold(readme, "END", Archeloft.END);
        constantIsTold(readme, "MAKE", Archeloft.MAKE);
    }

    private static void constantIsTold(String readme, String name, int value) {
        Check.due("README: tells " + name, readme.contains("`" + name + "` (" + value + ")"), true);
    }

    private static void testsAreTold(String readme) throws IOException {
        Check.due("README: how to run the tests", readme.contains("\n.ci/run\n"), true);
        try (var files = Files.list(THIS_TEST.getParent())) {
            for (Path file : (Iterable<Path>) files::iterator) {
                String name = file.getFileName().toString().replace(".java", "");
                if (name.endsWith("Test")) {
                    Check.due("README: tells " + name, readme.contains("`" + name + "`"), true);
                }
            }
        }
    }

    private static void exampleIsTheOneRunHere(List<String> readme) throws IOException {
        List<String> here = Files.readAllLines(THIS_TEST);
        List<String> run = between(here, "        " + BEGIN, "        " + END);
        Check.due("lines of the example", run.isEmpty(), false);
        List<String> told = between(readme, "```java", "```");
        Check.due("README: the example", String.join("\n", told), String.join("\n", run));
    }

    private static List<String> between(List<String> lines, String first, String last) {
        List<String> inside = new ArrayList<>();
        int from = lines.indexOf(first);
        for (int i = from + 1; from >= 0 && i < lines.size() && !lines.get(i).equals(last); i++) {
            inside.add(lines.get(i).strip());
        }
        return inside;
    }

    private static void example() {
        // the example begins
        Archeloft store = new Archeloft();
        int ship = store.make();                     // a handle
        store.add(ship, 0, 100);                     // kind 0 with the value 100
        store.add(ship, 1, 5);
        int moving = store.question(0b11, 0, 0);     // all entities with the kinds 0 and 1
        store.system(0b10, 0b01);                    // reads kind 1, writes kind 0
        store.run();                                 // kind 0 becomes 100 + 5 + 1
        store.walk(moving);
        for (int handle = store.next(); handle != Archeloft.NONE; handle = store.next()) {
            store.defer(Archeloft.TAKE, handle, 1, 0);   // waits until the walk is over
        }
        store.finish();                              // now kind 1 is taken
        // the example ends
        Check.due("the example: value of kind 0", store.value(ship, 0), 106);
        Check.due("the example: kinds of the ship", store.kinds(ship), 0b01);
        Check.due("the example: answers", store.answers(moving), 0);
    }
}
