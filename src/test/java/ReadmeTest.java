import java.io.IOException;
import java.lang.reflect.Method;
import java.nio.file.Files;
import java.nio.file.Path;
import java.util.ArrayList;
import java.util.List;
import java.util.regex.Matcher;
import java.util.regex.Pattern;

/** The example in README.md answers what it says, and the table there names each call. */
public final class ReadmeTest {
    private static final Pattern CALL = Pattern.compile("x\\.(\\w+)\\((.*)\\); +// (.*)");
    private static final Pattern ROW = Pattern.compile("\\| `(?:new )?(\\w+)\\((.*)\\)` +\\| (\\d+) +\\|.*");

    private ReadmeTest() {
    }

    public static void main(String[] args) throws Exception {
        List<String> lines = Files.readAllLines(Path.of("README.md"));
        example(lines.subList(lines.indexOf("```java") + 2, lines.size()));
        table(lines);
        Check.end();
    }

    private static void example(List<String> lines) throws ReflectiveOperationException {
        CounterLeaper x = new CounterLeaper();
        int calls = 0;
        Matcher call = CALL.matcher(lines.get(0));
        while (call.matches()) {
            make(x, call);
            calls++;
            call = CALL.matcher(lines.get(calls));
        }
        Check.same("behind the example", lines.get(calls), "```");
        Check.due("the example has calls", calls > 5 ? 1 : 0, 1);
    }

    private static void make(CounterLeaper x, Matcher call) throws ReflectiveOperationException {
        String[] given = call.group(2).isEmpty() ? new String[0] : call.group(2).split(", ");
        Method method = named(call.group(1));
        Object[] arguments = new Object[given.length];
        for (int i = 0; i < given.length; i++) {
            long value = Long.decode(given[i].replace("L", ""));
            boolean isLong = method.getParameterTypes()[i] == long.class;
            arguments[i] = isLong ? (Object) value : (Object) (int) value;
        }
        Object answer = method.invoke(x, arguments);
        if (method.getName().equals("type")) {
            Check.same(call.group(), characters((Long) arguments[0], (Integer) arguments[1]), call.group(3));
        } else if (answer != null) {
            Check.same(call.group(), answer.toString(), call.group(3).split(":")[0]);
        }
    }

    private static String characters(long characters, int n) {
        StringBuilder s = new StringBuilder();
        for (int i = n - 1; i >= 0; i--) {
            s.append((char) (characters >> 8 * i & 255));
        }
        return s.toString();
    }

    private static Method named(String name) {
        for (Method method : CounterLeaper.class.getDeclaredMethods()) {
            if (method.getName().equals(name)) {
                return method;
            }
        }
        throw new IllegalStateException("there is no method " + name);
    }

    /** The promises are told in the order of the document, from 1 to 20, with as many arguments each. */
    private static void table(List<String> lines) throws IOException {
        List<String> document = Files.readAllLines(Path.of("../shared/DOC.md"));
        int promise = 0;
        for (String line : lines) {
            Matcher row = ROW.matcher(line);
            if (row.matches()) {
                promise++;
                Check.same("a row of the table", row.group(3), Integer.toString(promise));
                Check.same("promise " + promise, face(row), faceOf(document, promise));
            }
        }
        Check.due("how many rows the table has", promise, 20);
    }

    private static String face(Matcher row) {
        return row.group(1) + "(" + row.group(2) + ")";
    }

    /** The call of a promise as its line has it, without the types. */
    private static String faceOf(List<String> document, int promise) {
        int heading = 0;
        while (!document.get(heading).startsWith("## Promise " + promise + ":")) {
            heading++;
        }
        Matcher face = Pattern.compile("`(?:\\w+ )?(\\w+)\\((.*?)\\).*").matcher(document.get(heading + 2));
        if (!face.matches()) {
            return "no call under promise " + promise;
        }
        List<String> names = new ArrayList<>();
        for (String parameter : face.group(2).split(", ")) {
            names.add(parameter.substring(parameter.indexOf(' ') + 1));
        }
        return face.group(1) + "(" + String.join(", ", names) + ")";
    }
}
