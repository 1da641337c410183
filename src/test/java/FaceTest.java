import java.lang.reflect.Constructor;
import java.lang.reflect.Executable;
import java.lang.reflect.Field;
import java.lang.reflect.Method;
import java.lang.reflect.Modifier;
import java.util.Arrays;
import java.util.TreeSet;

/** The face is the document's, whole and with nothing beside it (LANGUAGE.md, rules 1 and 5). */
public final class FaceTest {
    private static final String[] FACE = {
        "public CobolDebugger()",
        "public int CobolDebugger.statement(int,int)",
        "public int CobolDebugger.item(int,int)",
        "public int CobolDebugger.step(int,int,long)",
        "public int CobolDebugger.stop(int,int,int)",
        "public int CobolDebugger.run(int)",
        "public long CobolDebugger.show(int) throws java.lang.IllegalArgumentException,java.lang.IllegalStateException",
        "public int CobolDebugger.change(int,long)",
        "public int CobolDebugger.back(int)",
        "public int CobolDebugger.performed(int)",
        "public int CobolDebugger.count(int)",
        "public int CobolDebugger.caught(int,int)",
        "public int CobolDebugger.near(int)",
        "public byte CobolDebugger.octet(int,int) throws java.lang.ArrayIndexOutOfBoundsException",
        "public int CobolDebugger.poke(int,int,byte)",
        "public int CobolDebugger.told(int)",
        "public static final int CobolDebugger.NONE",
    };

    private static int wrong = 0;

    private static void tell(String text) {
        wrong++;
        System.out.println(text);
    }

    public static void main(String[] args) {
        TreeSet<String> seen = new TreeSet<>();
        TreeSet<String> names = new TreeSet<>();
        for (Executable e : executables(CobolDebugger.class)) {
            if (!Modifier.isPrivate(e.getModifiers())) {
                seen.add(e.toString());
                names.add(e.getName());
            }
        }
        for (Field f : CobolDebugger.class.getDeclaredFields()) {
            if (!Modifier.isPrivate(f.getModifiers())) {
                seen.add(f.toString());
            }
        }
        TreeSet<String> due = new TreeSet<>(Arrays.asList(FACE));
        if (!seen.equals(due)) {
            tell("the face is " + seen + ", due is " + due);
        }
        if (!Modifier.isFinal(CobolDebugger.class.getModifiers())) {
            tell("the class is not final");
        }
        lookInside(CobolDebugger.class, names);
        for (Class<?> inside : CobolDebugger.class.getDeclaredClasses()) {
            lookInside(inside, names);
        }
        System.out.println(wrong == 0 ? "the face is as due" : wrong + " things are not as due");
        if (wrong != 0) {
            System.exit(1);
        }
    }

    private static void lookInside(Class<?> c, TreeSet<String> names) {
        for (Method m : c.getDeclaredMethods()) {
            if (Modifier.isPrivate(m.getModifiers()) && names.contains(m.getName())) {
                tell(m + " bears the name of a public method");
            }
        }
        for (Field f : c.getDeclaredFields()) {
            if (Modifier.isStatic(f.getModifiers()) && !Modifier.isFinal(f.getModifiers())) {
                tell(f + " is static and not final");
            }
        }
    }

    private static Executable[] executables(Class<?> c) {
        Constructor<?>[] made = c.getDeclaredConstructors();
        Method[] methods = c.getDeclaredMethods();
        Executable[] all = Arrays.copyOf(made, made.length + methods.length, Executable[].class);
        System.arraycopy(methods, 0, all, made.length, methods.length);
        return all;
    }
}
