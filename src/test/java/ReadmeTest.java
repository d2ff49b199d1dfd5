import java.io.IOException;
import java.lang.reflect.InvocationTargetException;
import java.lang.reflect.Method;
import java.lang.reflect.Modifier;
import java.nio.file.Files;
import java.nio.file.Path;
import java.util.ArrayList;
import java.util.HashMap;
import java.util.List;
import java.util.Map;
import java.util.regex.Matcher;
import java.util.regex.Pattern;

/** What README.md says, compared with the program and the face of the document; it runs from the project's folder. */
public final class ReadmeTest {
    private static final Pattern EXAMPLE = Pattern.compile("x\\.(\\w+)\\(([^)]*)\\); +// ([-\\w.]+): .*");
    private static final Pattern ROW = Pattern.compile("\\| `(\\w+ \\w+\\([^)]*\\))` \\|[^|]*\\|([^|]*)\\|");
    private static final Pattern FACE = Pattern.compile("public (\\w+ \\w+\\([^)]*\\))(?: throws ([^;]*))?;");
    private static final String DOCUMENT = """
        public int setBoard(int w, int h) throws IllegalArgumentException;
        public int set(int x, int y, int kind) throws IndexOutOfBoundsException, IllegalArgumentException;
        public int line(int x, int y, int tx, int ty) throws IndexOutOfBoundsException, IllegalArgumentException;
        public int ring(int x, int y, int w, int h) throws IllegalArgumentException, IndexOutOfBoundsException;
        public int stamp(int stamp, int turns, int x, int y) throws IndexOutOfBoundsException;
        public int spark(int x, int y, int direction) throws IndexOutOfBoundsException, IllegalStateException;
        public int lamp(int x, int y) throws IndexOutOfBoundsException, IllegalStateException;
        public int pass(int steps) throws IllegalArgumentException;
        public int told(int x, int y, int what) throws IndexOutOfBoundsException;
        public int about(int lamp, int what) throws IndexOutOfBoundsException;
        public int count(int what) throws IndexOutOfBoundsException;
        public int way(int x, int y, int tx, int ty) throws IndexOutOfBoundsException;
        public int period(int what) throws IndexOutOfBoundsException;
        public int until(int x, int y) throws IndexOutOfBoundsException;
        public int foresee(int steps, int what) throws IllegalArgumentException, IndexOutOfBoundsException;
        public int advise(int steps) throws IllegalArgumentException;
        public double mean();
        public long digest();
        """;

    public static void main(String[] args) throws IOException, IllegalAccessException {
        List<String> readme = Files.readAllLines(Path.of("README.md"));
        table(readme);
        example(readme);
        stamps(readme);
        Check.end();
    }

    // The calls of the document, each with its exceptions in their order, are those of the table and of the program.
    private static void table(List<String> readme) {
        Map<String, String> told = new HashMap<>();
        for (String line : readme) {
            Matcher row = ROW.matcher(line);
            if (row.matches()) {
                told.put(row.group(1), exceptions(row.group(2)));
            }
        }
        Map<String, String> bare = new HashMap<>();
        for (String line : DOCUMENT.split("\n")) {
            Matcher call = FACE.matcher(line);
            Check.due("a call is " + line, call.matches() ? 1 : 0, 1);
            String due = exceptions(call.group(2) == null ? "" : call.group(2));
            Check.dueText("README.md on " + call.group(1), told.getOrDefault(call.group(1), "no row"), due);
            bare.put(bare(call.group(1)), due);
        }
        Check.due("rows of the table", told.size(), bare.size());
        Check.due("calls of the program", methods().size(), bare.size());
        for (Method method : methods().values()) {
            Check.dueText("the program's " + bare(method), thrown(method), bare.getOrDefault(bare(method), "no call"));
        }
    }

    // Each line of the example is called, and answers or throws what stands behind it.
    private static void example(List<String> readme) throws IllegalAccessException {
        Map<String, Method> methods = methods();
        SparkBoards x = new SparkBoards();
        int lines = 0;
        for (String line : readme) {
            Matcher call = EXAMPLE.matcher(line);
            if (!call.matches()) {
                Check.due("an answer stands in " + line, line.startsWith("x.") ? 1 : 0, 0);
                continue;
            }
            lines++;
            String got;
            try {
                got = String.valueOf(methods.get(call.group(1)).invoke(x, numbers(call.group(2))));
            } catch (InvocationTargetException e) {
                got = e.getCause().getClass().getSimpleName();
            }
            Check.dueText(line, got, call.group(3));
        }
        Check.due("an example is there", lines > 0 ? 1 : 0, 1);
    }

    private static void stamps(List<String> readme) {
        int first = readme.indexOf("0: ...   1: .#.   2: .#.   3: #..");
        Check.due("the stamps are there", first >= 0 ? 1 : 0, 1);
        for (int stamp = 0; first >= 0 && stamp < 4; stamp++) {
            SparkBoards x = new SparkBoards();
            x.setBoard(3, 3);
            x.stamp(stamp, 0, 0, 0);
            String[] rows = new String[3];
            for (int y = 0; y < 3; y++) {
                int from = 3 + 9 * stamp;
                rows[y] = readme.get(first + y).substring(from, from + 3).replace('#', 'c');
            }
            Check.duePicture("stamp " + stamp, x, rows);
        }
    }

    private static Map<String, Method> methods() {
        Map<String, Method> methods = new HashMap<>();
        for (Method method : SparkBoards.class.getDeclaredMethods()) {
            if (Modifier.isPublic(method.getModifiers())) {
                methods.put(method.getName(), method);
            }
        }
        return methods;
    }

    private static Object[] numbers(String text) {
        List<Object> numbers = new ArrayList<>();
        for (String number : text.split(", ")) {
            if (!number.isEmpty()) {
                numbers.add(Integer.parseInt(number));
            }
        }
        return numbers.toArray();
    }

    private static String thrown(Method method) {
        StringBuilder names = new StringBuilder();
        for (Class<?> exception : method.getExceptionTypes()) {
            names.append(exception.getSimpleName()).append(' ');
        }
        return names.toString();
    }

    private static String exceptions(String text) {
        StringBuilder names = new StringBuilder();
        Matcher name = Pattern.compile("\\w+Exception").matcher(text);
        while (name.find()) {
            names.append(name.group()).append(' ');
        }
        return names.toString();
    }

    // Without the parameters' names, which a class file does not keep.
    private static String bare(String call) {
        return call.replaceAll("(int) \\w+(?=[,)])", "$1");
    }

    private static String bare(Method method) {
        StringBuilder text = new StringBuilder(method.getReturnType() + " " + method.getName() + "(");
        for (int i = 0; i < method.getParameterCount(); i++) {
            text.append(i == 0 ? "" : ", ").append(method.getParameterTypes()[i]);
        }
        return text.append(")").toString();
    }
}
