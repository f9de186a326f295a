import java.io.IOException;
import java.lang.reflect.Constructor;
import java.lang.reflect.Field;
import java.lang.reflect.Method;
import java.lang.reflect.Modifier;
import java.nio.file.Files;
import java.nio.file.Path;
import java.util.Arrays;
import java.util.Comparator;
import java.util.Random;
import java.util.Set;
import java.util.TreeSet;

/** The face of the class, what a look at words can find of ../shared/LANGUAGE.md, and that no call throws. */
public final class LanguageTest {
    private static final Path SOURCE = Path.of("src/main/java/ClusterField.java");
    private static final String[] FACE = {
        "INVALID_ARGUMENT", "ILLEGAL_STATE", "CAPACITY_EXCEEDED", "NONE", "ClusterField/0", "addSensor/3",
        "moveBase/2", "setSetting/2", "setGenerator/1", "charge/2", "run/1", "roundNumber/0", "sensorCount/0",
        "aliveCount/0", "isAlive/1", "battery/1", "isEligible/1", "headRounds/1", "deathRound/1", "headOf/1",
        "slotOf/1", "headCount/0", "lastDelivered/0", "deliveredTotal/0", "energyPaid/0", "sendCost/2",
        "forecastDeath/2", "forecastDelivered/1", "undo/0", "undoDepth/0", "save/1", "restore/1"
    };
    private static final String[] RULED_OUT = {
        "\\bpackage\\b", "\\bimport\\b", "\\bthrow\\b", "\\bthrows\\b", "\\btry\\b", "\\bcatch\\b",
        "\\bsynchronized\\b", "\\bassert\\b", "->", "::", "\\bnull\\b",
        "\\b(equals|hashCode|toString)\\b", "Exact\\b", "\\bThread\\b"
    };
    private static final int LONGEST_METHOD = 60;
    private static final int MOST_FIELDS = 20;
    private static final int MOST_CLASSES = 12;
    private static final int CALLS_WITHOUT_END = 20000;
    private static final int[] EXTREMES = {
        Integer.MIN_VALUE, Integer.MIN_VALUE + 1, -9, -1, 0, 1, 12, Integer.MAX_VALUE - 1, Integer.MAX_VALUE
    };

    private static final Answers A = new Answers("LanguageTest");

    public static void main(String[] args) throws IOException {
        face();
        ownClasses();
        words();
        methodLengths();
        noCallThrows();
        A.finish();
    }

    private static void face() {
        Set<String> open = new TreeSet<>();
        for (Field f : ClusterField.class.getDeclaredFields()) {
            if (!Modifier.isPrivate(f.getModifiers()) && !f.isSynthetic()) {
                open.add(f.getName());
                int wanted = Modifier.PUBLIC | Modifier.STATIC | Modifier.FINAL;
                A.due("modifiers of " + f.getName(), f.getModifiers(), wanted);
                A.due(f.getName() + " is an int", f.getType() == int.class ? 1 : 0, 1);
            }
        }
        for (Constructor<?> c : ClusterField.class.getDeclaredConstructors()) {
            open.add("ClusterField/" + c.getParameterCount());
            A.due("modifiers of the constructor", c.getModifiers(), Modifier.PUBLIC);
        }
        Set<String> names = new TreeSet<>();
        for (Method m : ClusterField.class.getDeclaredMethods()) {
            if (!Modifier.isPrivate(m.getModifiers()) && !m.isSynthetic()) {
                open.add(m.getName() + "/" + m.getParameterCount());
                names.add(m.getName());
                A.due("modifiers of " + m.getName(), m.getModifiers(), Modifier.PUBLIC);
                A.due(m.getName() + " answers an int", m.getReturnType() == int.class ? 1 : 0, 1);
            }
        }
        for (Method m : ClusterField.class.getDeclaredMethods()) {
            boolean hidden = Modifier.isPrivate(m.getModifiers());
            A.due("private " + m.getName(), hidden && names.contains(m.getName()) ? 1 : 0, 0);
        }
        for (String wanted : FACE) {
            A.due("face has " + wanted, open.remove(wanted) ? 1 : 0, 1);
        }
        A.due("members beside the face " + open, open.size(), 0);
        A.due("public final", ClusterField.class.getModifiers(), Modifier.PUBLIC | Modifier.FINAL);
    }

    private static void ownClasses() {
        Class<?>[] inside = ClusterField.class.getDeclaredClasses();
        A.due("few classes", inside.length < MOST_CLASSES ? 1 : 0, 1);
        fields(ClusterField.class);
        for (Class<?> c : inside) {
            fields(c);
            A.due(c + " is static", Modifier.isStatic(c.getModifiers()) ? 1 : 0, 1);
            A.due(c + " is not open", c.getModifiers() & (Modifier.PUBLIC | Modifier.PROTECTED), 0);
            A.due(c + " has no classes inside", c.getDeclaredClasses().length, 0);
        }
    }

    private static void fields(Class<?> c) {
        int fields = 0;
        for (Field f : c.getDeclaredFields()) {
            if (!Modifier.isStatic(f.getModifiers())) {
                fields++;
            } else {
                A.due(c + " static " + f.getName() + " is final", Modifier.isFinal(f.getModifiers()) ? 1 : 0, 1);
            }
        }
        A.due(c + " has few fields", fields <= MOST_FIELDS ? 1 : 0, 1);
    }

    private static void words() throws IOException {
        int number = 0;
        for (String line : Files.readAllLines(SOURCE)) {
            number++;
            String code = line.replaceAll("/\\*.*\\*/|//.*", "");
            for (String word : RULED_OUT) {
                A.due("line " + number + " has " + word, code.matches(".*" + word + ".*") ? 1 : 0, 0);
            }
            A.due("line " + number + " has plain signs", line.matches("[ -~]*") ? 1 : 0, 1);
        }
    }

    // A method of the outer class ends at four blanks and a brace, one of an inner class at eight.
    private static void methodLengths() throws IOException {
        int length = 0;
        for (String line : Files.readAllLines(SOURCE)) {
            length++;
            if (line.matches(" {4}( {4})?\\S.*\\) \\{")) {
                length = 1;
            } else if (line.matches(" {4}( {4})?}")) {
                A.due("a method of " + length + " lines is short", length <= LONGEST_METHOD ? 1 : 0, 1);
                length = 0;
            }
        }
    }

    // Answers after call 512 are free, but no call may throw, for any arguments in any state.
    private static void noCallThrows() {
        Random dice = new Random(7);
        ClusterField x = new ClusterField();
        Method[] methods = ClusterField.class.getDeclaredMethods();
        // Java gives them in no order of its own, and each run is to be the same.
        Arrays.sort(methods, Comparator.comparing(Method::getName));
        for (int n = 0; n < CALLS_WITHOUT_END; n++) {
            Method m = methods[dice.nextInt(methods.length)];
            if (Modifier.isPublic(m.getModifiers())) {
                A.due(m.getName() + " throws, call " + n, throwsIn(x, m, dice) ? 1 : 0, 0);
            }
        }
    }

    private static boolean throwsIn(ClusterField x, Method m, Random dice) {
        Object[] arguments = new Object[m.getParameterCount()];
        for (int i = 0; i < arguments.length; i++) {
            boolean extreme = dice.nextInt(4) == 0;
            arguments[i] = extreme ? EXTREMES[dice.nextInt(EXTREMES.length)] : dice.nextInt(14);
        }
        try {
            m.invoke(x, arguments);
            return false;
        } catch (ReflectiveOperationException e) {
            System.out.println(m.getName() + Arrays.toString(arguments) + ": " + e.getCause());
            return true;
        }
    }
}
