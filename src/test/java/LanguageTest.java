import java.io.IOException;
import java.lang.reflect.Field;
import java.lang.reflect.Method;
import java.lang.reflect.Modifier;
import java.nio.charset.StandardCharsets;
import java.nio.file.Files;
import java.nio.file.Path;
import java.util.ArrayList;
import java.util.Arrays;
import java.util.HashMap;
import java.util.HashSet;
import java.util.List;
import java.util.Map;
import java.util.Set;
import java.util.regex.Matcher;
import java.util.regex.Pattern;

/** What of ../shared/LANGUAGE.md can be read off the source and the compiled class; each check names its rule. */
public final class LanguageTest {
    private static final Path SOURCE = Path.of("src/main/java/EchoTaps.java");
    private static final int METHOD_LINES = 60, PARAMETERS = 7, CLASSES = 12, FIELDS = 20, DEPTH = 8;
    private static final Due DUE = new Due();

    public static void main(String[] args) throws IOException {
        String text = Files.readString(SOURCE, StandardCharsets.UTF_8);
        String code = withoutComments(text);
        signs(text);
        words(code);
        library(code);
        lengths(code);
        depths(code);
        List<Class<?>> classes = new ArrayList<>(Arrays.asList(EchoTaps.class.getDeclaredClasses()));
        nested(classes);
        classes.add(EchoTaps.class);
        DUE.holds("rule 11: classes " + classes.size(), classes.size() <= CLASSES);
        for (Class<?> c : classes) {
            fields(c);
            methods(c);
        }
        privateNames();
        DUE.end("LanguageTest");
    }

    private static String withoutComments(String text) {
        return text.replaceAll("(?s)/\\*.*?\\*/", " ").replaceAll("//[^\n]*", " ");
    }

    private static void signs(String text) {
        for (int i = 0; i < text.length(); i++) {
            DUE.holds("sign " + i + " is plain", text.charAt(i) < 127);
        }
    }

    private static void words(String code) {
        String[] ruledOut = {"package", "import", "throw", "throws", "try", "catch", "finally", "synchronized", "assert",
            "protected", "native", "volatile", "transient", "Object", "double", "float", "var"};
        for (String word : ruledOut) {
            DUE.holds("rules 1, 3, 4, 6: " + word, !Pattern.compile("\\b" + word + "\\b").matcher(code).find());
        }
        DUE.holds("rule 2: no lambda", !code.contains("->"));
        DUE.holds("rule 2: no method reference", !code.contains("::"));
        DUE.holds("rule 5: no static block", !Pattern.compile("\\bstatic\\s*\\{").matcher(code).find());
        DUE.holds("rule 9: no loop but for", !Pattern.compile("\\b(while|do)\\b").matcher(code).find());
    }

    /** Of the library the class uses these few alone. */
    private static void library(String code) {
        Set<String> fine = new HashSet<>(Arrays.asList("Math.abs", "Math.max", "Math.min", "System.arraycopy"));
        Matcher m = Pattern.compile("\\b[A-Z][a-z]\\w*\\.\\w+").matcher(code);
        int found = 0;
        while (m.find()) {
            found++;
            DUE.holds("rule 4: " + m.group(), fine.contains(m.group()));
        }
        DUE.holds("the library was looked for", found > 0);
    }

    /** A method begins with a line that ends with ") {" one or two levels in, and ends with a brace as far in. */
    private static void lengths(String code) {
        String[] lines = code.split("\n");
        int methods = 0;
        for (int i = 0; i < lines.length; i++) {
            Matcher m = Pattern.compile("^( {4}| {8})(public|private|static|int|void|boolean|long)\\b.*\\) \\{$").matcher(lines[i]);
            if (m.find()) {
                methods++;
                int end = i;
                while (end < lines.length && !lines[end].equals(m.group(1) + "}")) {
                    end++;
                }
                DUE.holds("rule 11: lines of" + lines[i], end - i < METHOD_LINES);
            }
        }
        DUE.holds("methods were looked at: " + methods, methods >= 17);
    }

    /** Methods are told apart by name alone; the class has no two of one name. */
    private static void depths(String code) {
        Map<String, String> bodies = new HashMap<>();
        Matcher m = Pattern.compile("(?ms)^( {4}| {8})[a-z][\\w \\[\\]]* (\\w+)\\([^()]*\\) \\{\n(.*?)^\\1\\}").matcher(code);
        int at = 0;
        while (m.find(at)) {
            DUE.holds("one method of the name " + m.group(2), bodies.put(m.group(2), m.group(3)) == null);
            at = m.start(3);
        }
        Set<String> names = new HashSet<>();
        for (Class<?> c : new Class<?>[] {EchoTaps.class, EchoTaps.class.getDeclaredClasses()[0]}) {
            for (Method method : c.getDeclaredMethods()) {
                names.add(method.getName());
            }
        }
        names.add("EchoTaps");
        DUE.holds("methods found " + bodies.keySet() + " are " + names, bodies.keySet().equals(names));
        for (String name : bodies.keySet()) {
            int deep = depthOf(name, bodies, DEPTH + 1);
            DUE.holds("rules 8, 11: calls from " + name + " go " + deep + " deep", deep <= DEPTH);
        }
    }

    /** How many calls stand open at once from a method on, itself and the library's counted; most: so many or more. */
    private static int depthOf(String name, Map<String, String> bodies, int most) {
        int deepest = 0;
        Matcher m = Pattern.compile("\\b(\\w+)\\(").matcher(bodies.getOrDefault(name, ""));
        while (m.find() && most > 1) {
            deepest = Math.max(deepest, depthOf(m.group(1), bodies, most - 1));
        }
        return 1 + deepest;
    }

    private static void nested(List<Class<?>> classes) {
        for (Class<?> c : classes) {
            int is = c.getModifiers();
            DUE.holds("rule 1: " + c + " is static", Modifier.isStatic(is));
            DUE.holds("rule 1: " + c + " is not seen from outside", !Modifier.isPublic(is) && !Modifier.isProtected(is));
            DUE.is("rule 2: classes inside " + c, c.getDeclaredClasses().length, 0);
        }
    }

    private static void fields(Class<?> c) {
        int own = 0;
        for (Field f : c.getDeclaredFields()) {
            if (Modifier.isStatic(f.getModifiers())) {
                DUE.holds("rule 5: " + f + " is final", Modifier.isFinal(f.getModifiers()));
                DUE.holds("rule 5: " + f, f.getType() == int.class || f.getType() == int[].class);
            } else {
                own++;
            }
        }
        DUE.holds("rule 11: fields of " + c + ": " + own, own <= FIELDS);
    }

    private static void methods(Class<?> c) {
        for (Method m : c.getDeclaredMethods()) {
            DUE.holds("rule 11: parameters of " + m, m.getParameterCount() <= PARAMETERS);
            String name = m.getName();
            DUE.holds("rule 6: " + m, !name.equals("equals") && !name.equals("hashCode") && !name.equals("toString"));
        }
    }

    private static void privateNames() {
        Set<String> face = new HashSet<>();
        for (Method m : EchoTaps.class.getDeclaredMethods()) {
            if (Modifier.isPublic(m.getModifiers())) {
                face.add(m.getName());
            }
        }
        for (Method m : EchoTaps.class.getDeclaredMethods()) {
            DUE.holds("rule 1: the name of " + m, Modifier.isPublic(m.getModifiers()) || !face.contains(m.getName()));
        }
    }
}
