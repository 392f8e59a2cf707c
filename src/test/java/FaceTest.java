import java.lang.reflect.Constructor;
import java.lang.reflect.Field;
import java.lang.reflect.Method;
import java.lang.reflect.Modifier;
import java.nio.charset.StandardCharsets;
import java.nio.file.Files;
import java.nio.file.Path;
import java.util.Arrays;
import java.util.Set;
import java.util.TreeSet;

/** The face of the class as the document has it, and what can be seen of ../shared/LANGUAGE.md from outside. */
public final class FaceTest {
    private static final String[] FACE = {
        "int clock(int, int, int, int, int)", "int wind(int)", "int tick(int)", "int passenger(int)",
        "int group(int)", "int join(int, int)", "int leave(int, int)", "int clockOf(int, int)",
        "long mean(int, int)", "int groupOf(int, int)", "int next(int)", "int would(int, int, int)",
        "int meets(int)", "long longer()", "int count(int)", "int undo()", "int type(int)",
        "int clearText()", "int fault(int)", "int play()",
    };
    private static final String[] CONSTANTS = {"INVALID_ARGUMENT", "NOT_POSSIBLE", "LIMIT_REACHED", "NOT_FOUND"};
    private static final String[] RULED_OUT = {
        "import ", "package ", "throw", "catch", "->", "::", "Double.", "Exact(", "while (true)", "synchronized",
        "assert ", "protected ", "hashCode", "toString", "strictfp", "native ",
    };

    public static void main(String[] args) throws Exception {
        methods();
        fieldsAndConstructors();
        nestedClasses();
        source();
        room();
        Check.end();
    }

    private static void methods() {
        Set<String> names = new TreeSet<>();
        Set<String> signatures = new TreeSet<>();
        for (Method method : RenewalClocks.class.getDeclaredMethods()) {
            if (Modifier.isPrivate(method.getModifiers())) {
                continue;
            }
            String parameters = Arrays.toString(method.getParameterTypes()).replace("[", "(").replace("]", ")");
            signatures.add(method.getReturnType() + " " + method.getName() + parameters);
            names.add(method.getName());
            Check.due("modifiers of " + method.getName(), method.getModifiers(), Modifier.PUBLIC);
        }
        Check.dueText("the methods", signatures.toString(), new TreeSet<>(Arrays.asList(FACE)).toString());
        for (Class<?> own : RenewalClocks.class.getDeclaredClasses()) {
            for (Method method : own.getDeclaredMethods()) {
                Check.dueTrue(own.getName() + " has a method " + method.getName() + ", a name of the face",
                    !names.contains(method.getName()));
                Check.dueTrue(method.getName() + " has too many parameters", method.getParameterCount() <= 7);
            }
        }
    }

    private static void fieldsAndConstructors() {
        Set<String> names = new TreeSet<>();
        for (Field field : RenewalClocks.class.getDeclaredFields()) {
            int modifiers = field.getModifiers();
            if (Modifier.isPrivate(modifiers)) {
                continue;
            }
            names.add(field.getName());
            Check.due("modifiers of " + field.getName(), modifiers, Modifier.PUBLIC | Modifier.STATIC | Modifier.FINAL);
            Check.dueText("type of " + field.getName(), field.getType().getName(), "int");
        }
        Check.dueText("the constants", names.toString(), new TreeSet<>(Arrays.asList(CONSTANTS)).toString());
        Constructor<?>[] constructors = RenewalClocks.class.getDeclaredConstructors();
        Check.due("constructors", constructors.length, 1);
        Check.due("modifiers of the constructor", constructors[0].getModifiers(), Modifier.PUBLIC);
        Check.due("parameters of the constructor", constructors[0].getParameterCount(), 0);
        Check.due("modifiers of the class", RenewalClocks.class.getModifiers(), Modifier.PUBLIC | Modifier.FINAL);
    }

    private static void nestedClasses() {
        Class<?>[] own = RenewalClocks.class.getDeclaredClasses();
        Check.dueTrue("too many classes", own.length < 12);
        for (Class<?> each : own) {
            Check.dueTrue(each.getName() + " is seen from outside", Modifier.isPrivate(each.getModifiers()));
            int fields = 0;
            for (Field field : each.getDeclaredFields()) {
                boolean fixed = Modifier.isStatic(field.getModifiers());
                Check.dueTrue(field + " is static and not final", !fixed || Modifier.isFinal(field.getModifiers()));
                fields += fixed ? 0 : 1;
            }
            Check.dueTrue(each.getName() + " has too many fields", fields <= 20);
        }
    }

    private static void source() throws Exception {
        String text = Files.readString(Path.of("src/main/java/RenewalClocks.java"), StandardCharsets.ISO_8859_1);
        for (String word : RULED_OUT) {
            Check.dueTrue("the class has " + word, !text.contains(word));
        }
        Check.dueTrue("the class has a character beyond 126", text.chars().allMatch(c -> c < 127));
    }

    /** All calls of one run share one room: what there is is made with the object, and no call makes more. */
    private static void room() {
        com.sun.management.ThreadMXBean threads =
            (com.sun.management.ThreadMXBean) java.lang.management.ManagementFactory.getThreadMXBean();
        long thread = Thread.currentThread().getId();
        dearRun();
        long before = threads.getThreadAllocatedBytes(thread);
        dearRun();
        long used = threads.getThreadAllocatedBytes(thread) - before;
        Check.dueTrue("a run of 512 calls takes " + used + " bytes", used < 100000);
    }

    private static void dearRun() {
        RenewalClocks x = new RenewalClocks();
        for (int i = 0; i < 6; i++) {
            x.clock(1, 1, 2, 3, 0);
        }
        x.group(1);
        x.join(0, 0);
        for (int i = 0; i < 60; i++) {
            x.type("t9;".charAt(i % 3));
        }
        for (int i = 0; i < 44; i++) {
            x.play();
            x.fault(1);
            x.would(3, 200, 2);
            x.meets(0);
            x.mean(2, 1);
            x.longer();
            x.next(5);
            x.wind(4);
            x.tick(3);
            x.undo();
        }
    }
}
