import java.lang.reflect.Constructor;
import java.lang.reflect.Field;
import java.lang.reflect.Method;
import java.lang.reflect.Modifier;
import java.util.Arrays;
import java.util.Set;
import java.util.TreeSet;

/** The public face, the constants, and promise 1: a new object. */
public final class FaceTest {
    private static final Due DUE = new Due();

    public static void main(String[] args) {
        constants();
        face();
        newObject();
        objectsAreApart();
        DUE.end("FaceTest");
    }

    private static void constants() {
        DUE.is("OUTSIDE", EchoTaps.OUTSIDE, -2);
        DUE.is("STATE", EchoTaps.STATE, -3);
        DUE.is("NONE", EchoTaps.NONE, -6);
        DUE.is("GONE", EchoTaps.GONE, -1000000000);
    }

    private static void face() {
        Set<String> want = new TreeSet<>(Arrays.asList(
                "rule 2", "tick 2", "tap 1", "last 1", "ago 2", "part 2", "speak 2", "run 3", "learnt 3",
                "likeness 1", "seek 0", "gain 1", "began 2", "image 1", "restore 1", "count 1"));
        Set<String> got = new TreeSet<>();
        for (Method m : EchoTaps.class.getDeclaredMethods()) {
            if (!Modifier.isPrivate(m.getModifiers()) && !m.isSynthetic()) {
                got.add(m.getName() + " " + m.getParameterCount());
                DUE.holds(m + " is public and of the object", m.getModifiers() == Modifier.PUBLIC);
                DUE.holds(m + " answers an int", m.getReturnType() == int.class);
            }
        }
        DUE.holds("the methods " + got, got.equals(want));
        Set<String> fields = new TreeSet<>();
        for (Field f : EchoTaps.class.getDeclaredFields()) {
            if (!Modifier.isPrivate(f.getModifiers())) {
                fields.add(f.getName());
            }
            if (Modifier.isStatic(f.getModifiers())) {
                DUE.holds(f + " is final", Modifier.isFinal(f.getModifiers()));
            }
        }
        DUE.holds("the fields " + fields, fields.equals(new TreeSet<>(Arrays.asList("OUTSIDE", "STATE", "NONE", "GONE"))));
        Constructor<?>[] made = EchoTaps.class.getDeclaredConstructors();
        DUE.is("constructors", made.length, 1);
        DUE.holds("the constructor is public", Modifier.isPublic(made[0].getModifiers()) && made[0].getParameterCount() == 0);
        int is = EchoTaps.class.getModifiers();
        DUE.holds("the class is public and final", Modifier.isPublic(is) && Modifier.isFinal(is));
    }

    private static void newObject() {
        Counted x = new Counted();
        int[] rules = {512, 5, 0, 0, 0};
        for (int i = 0; i < 5; i++) {
            DUE.is("new count(" + (10 + i) + ")", x.count(10 + i), rules[i]);
        }
        for (int i = 0; i <= 5; i++) {
            DUE.is("new count(" + i + ")", x.count(i), 0);
        }
        for (int k = 0; k < 8; k++) {
            DUE.is("new tap(" + k + ")", x.tap(k), 0);
            DUE.is("new last(" + k + ")", x.last(k), -1000000003);
        }
        for (int k = 0; k <= 8; k++) {
            DUE.is("new part(" + k + ", 0)", x.part(k, 0), 0);
        }
        for (int d = 0; d < 16; d++) {
            DUE.is("new likeness(" + d + ")", x.likeness(d), 0);
        }
        DUE.is("new ago(0, 2)", x.ago(0, 2), -1000000006);
        DUE.is("new restore(0)", x.restore(0), -3);
        DUE.is("new restore(1)", x.restore(1), -3);
        DUE.is("new began(-1, 0)", x.began(-1, 0), 0);
        DUE.is("new began(-1, 1)", x.began(-1, 1), 0);
        DUE.is("new seek()", x.seek(), -3);
        DUE.is("new gain(0)", x.gain(0), -3);
    }

    private static void objectsAreApart() {
        Counted x = new Counted();
        x.rule(0, 7);
        x.part(2, 100);
        x.tick(500, 100);
        x.image(1);
        Counted y = new Counted();
        DUE.is("another's count(10)", y.count(10), 512);
        DUE.is("another's count(0)", y.count(0), 0);
        DUE.is("another's part(2, 0)", y.part(2, 0), 0);
        DUE.is("another's restore(1)", y.restore(1), -3);
    }
}
