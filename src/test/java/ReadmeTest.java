import java.io.IOException;
import java.lang.reflect.Method;
import java.lang.reflect.Modifier;
import java.nio.charset.StandardCharsets;
import java.nio.file.DirectoryStream;
import java.nio.file.Files;
import java.nio.file.Path;
import java.util.ArrayList;
import java.util.HashMap;
import java.util.List;
import java.util.Map;
import java.util.Set;
import java.util.TreeSet;
import java.util.regex.Matcher;
import java.util.regex.Pattern;

/** What README.md tells: the answers in its examples, and that its tables name every call and every test. */
public final class ReadmeTest {
    private static final Path README = Path.of("README.md");
    private static final Path TESTS = Path.of("src/test/java");
    private static final Pattern BLOCK = Pattern.compile("(?s)```java\n(.*?)```");
    private static final Pattern CALL = Pattern.compile("x\\.(\\w+)\\(([-0-9, ]*)\\); *// (-?\\d+)(: .*)?");
    private static final Pattern CALL_ROW = Pattern.compile("(?m)^\\| `(\\w+)\\(([\\w, ]*)\\)` \\|[^|]*\\| ([A-Z+, ]+) \\|$");
    private static final Pattern TEST_ROW = Pattern.compile("(?m)^\\| (\\w+Test) \\|");
    private static final Due DUE = new Due();

    private final Map<String, Method> ofClass = methodsOf(EchoTaps.class);
    private final Map<String, Method> ofModel = methodsOf(Model.class);
    private final Set<String> called = new TreeSet<>();
    /** "call NAME" for each answer of NAME that is a refusal or NONE. */
    private final Set<String> notAnswered = new TreeSet<>();
    private EchoTaps x;
    private Model m;

    public static void main(String[] args) throws Exception {
        String text = Files.readString(README, StandardCharsets.UTF_8);
        ReadmeTest t = new ReadmeTest();
        t.examples(text);
        t.tableOfCalls(text);
        tableOfTests(text);
        DUE.end("ReadmeTest");
    }

    private static Map<String, Method> methodsOf(Class<?> c) {
        Map<String, Method> found = new HashMap<>();
        for (Method method : c.getDeclaredMethods()) {
            if (!Modifier.isPrivate(method.getModifiers()) && !Modifier.isStatic(method.getModifiers())) {
                found.put(method.getName(), method);
            }
        }
        return found;
    }

    private void examples(String text) throws ReflectiveOperationException {
        Matcher block = BLOCK.matcher(text);
        while (block.find()) {
            // A block stands for itself: it makes the object that it asks.
            x = null;
            for (String line : block.group(1).split("\n")) {
                example(line);
            }
        }
        DUE.holds("examples call all of " + ofClass.keySet(), called.equals(new TreeSet<>(ofClass.keySet())));
    }

    private void example(String line) throws ReflectiveOperationException {
        if (line.equals("EchoTaps x = new EchoTaps();")) {
            DUE.holds("a block of README.md makes one object", x == null);
            x = new EchoTaps();
            m = new Model();
            return;
        }
        Matcher call = CALL.matcher(line);
        boolean plain = call.matches() && x != null && ofClass.containsKey(call.group(1));
        DUE.holds("README.md has a call with its answer: " + line, plain || line.isEmpty());
        if (plain) {
            ask(line, call.group(1), numbers(call.group(2)), Integer.parseInt(call.group(3)));
        }
    }

    /** The model is asked too, so that what stands there is the document's answer and not the class's alone. */
    private void ask(String line, String name, Object[] numbers, int told) throws ReflectiveOperationException {
        DUE.is("README.md: " + line, (Integer) ofClass.get(name).invoke(x, numbers), told);
        DUE.is("README.md, by the model: " + line, (Long) ofModel.get(name).invoke(m, numbers), told);
        called.add(name);
        int[] named = {EchoTaps.OUTSIDE, EchoTaps.STATE, EchoTaps.NONE};
        String[] names = {"OUTSIDE", "STATE", "NONE"};
        for (int i = 0; i < named.length; i++) {
            if (told == named[i]) {
                notAnswered.add(name + " " + names[i]);
            } else if (told == EchoTaps.GONE + named[i]) {
                notAnswered.add(name + " GONE + " + names[i]);
            }
        }
    }

    private static Object[] numbers(String list) {
        List<Object> found = new ArrayList<>();
        for (String number : list.split(",")) {
            if (!number.isBlank()) {
                found.add(Integer.valueOf(number.trim()));
            }
        }
        return found.toArray();
    }

    private void tableOfCalls(String text) {
        Set<String> rows = new TreeSet<>();
        Set<String> told = new TreeSet<>();
        Matcher row = CALL_ROW.matcher(text);
        while (row.find()) {
            String name = row.group(1);
            rows.add(name);
            for (String answer : row.group(3).split(", ")) {
                told.add(name + " " + answer);
            }
            int parameters = row.group(2).isEmpty() ? 0 : row.group(2).split(",").length;
            boolean known = ofClass.containsKey(name);
            DUE.holds("the table's " + name + " is a call", known);
            if (known) {
                DUE.is("parameters of " + name, ofClass.get(name).getParameterCount(), parameters);
            }
        }
        DUE.holds("the table has all calls: " + rows, rows.equals(new TreeSet<>(ofClass.keySet())));
        DUE.holds("the table tells " + told + ", the examples show " + notAnswered, told.equals(notAnswered));
    }

    private static void tableOfTests(String text) throws IOException {
        Set<String> there = new TreeSet<>();
        try (DirectoryStream<Path> files = Files.newDirectoryStream(TESTS, "*Test.java")) {
            for (Path file : files) {
                there.add(file.getFileName().toString().replace(".java", ""));
            }
        }
        Set<String> told = new TreeSet<>();
        Matcher row = TEST_ROW.matcher(text);
        while (row.find()) {
            told.add(row.group(1));
        }
        DUE.holds("README.md names " + told + ", there are " + there, told.equals(there));
    }
}
