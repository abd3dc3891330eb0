import java.lang.reflect.Constructor;
import java.lang.reflect.Field;
import java.lang.reflect.Method;
import java.lang.reflect.Modifier;
import java.util.Arrays;
import java.util.TreeSet;

/** The public face: what the document names is there, and nothing else can be seen. */
public final class FaceTest {
    private static final String[] METHODS = {
        "int key(int, boolean)", "int vault(int)", "int hang(int, int, int)", "int link(int, int)",
        "int put(int, int)", "int take(int, int)", "int move(int, int, int)", "int split(int, int)", "int swap(int)",
        "int polish(int)", "int rounds(int, int, int)", "int sweep(int, int, int)", "int walk(int, int, int)",
        "int order(int, int, int, int)", "int run()", "int sum(int)", "int hung(int, int)", "int wear(int)",
        "int entries()", "int entry(int)", "int clear()", "int alarms()", "int orders()"};
    private static final String[] CONSTANTS = {
        "NONE -1", "BAD -2", "FULL -3", "MISSING -4", "DENIED -5", "ALARM -6", "JAMMED -7", "BROKEN -8"};

    public static void main(String[] args) throws IllegalAccessException {
        Due.is("the class is public and final", VaultHands.class.getModifiers(), Modifier.PUBLIC | Modifier.FINAL);
        same("methods", seenMethods(), METHODS);
        same("constants", seenConstants(), CONSTANTS);
        constructor();
        noPrivateMethodWithAPublicName();
        Due.end();
    }

    private static void same(String what, TreeSet<String> seen, String[] due) {
        TreeSet<String> wanted = new TreeSet<>(Arrays.asList(due));
        if (!seen.equals(wanted)) {
            System.out.println(what + " seen: " + seen);
            System.out.println(what + " due:  " + wanted);
        }
        Due.is(what + " are those of the document", seen.equals(wanted) ? 1 : 0, 1);
    }

    private static TreeSet<String> seenMethods() {
        TreeSet<String> seen = new TreeSet<>();
        for (Method m : VaultHands.class.getDeclaredMethods()) {
            if (!Modifier.isPrivate(m.getModifiers())) {
                StringBuilder types = new StringBuilder();
                for (Class<?> type : m.getParameterTypes()) {
                    types.append(types.length() == 0 ? "" : ", ").append(type.getName());
                }
                seen.add(m.getReturnType() + " " + m.getName() + "(" + types + ")");
                Due.is(m.getName() + " is public alone", m.getModifiers(), Modifier.PUBLIC);
            }
        }
        return seen;
    }

    private static TreeSet<String> seenConstants() throws IllegalAccessException {
        TreeSet<String> seen = new TreeSet<>();
        for (Field f : VaultHands.class.getDeclaredFields()) {
            if (!Modifier.isPrivate(f.getModifiers())) {
                int how = Modifier.PUBLIC | Modifier.STATIC | Modifier.FINAL;
                Due.is(f.getName() + " is a public constant", f.getModifiers(), how);
                seen.add(f.getName() + " " + f.getInt(null));
            }
        }
        return seen;
    }

    private static void constructor() {
        Constructor<?>[] all = VaultHands.class.getDeclaredConstructors();
        Due.is("constructors", all.length, 1);
        Due.is("it takes nothing", all[0].getParameterCount(), 0);
        Due.is("it is public", all[0].getModifiers(), Modifier.PUBLIC);
    }

    private static void noPrivateMethodWithAPublicName() {
        TreeSet<String> names = new TreeSet<>();
        for (String method : METHODS) {
            names.add(method.substring("int ".length(), method.indexOf('(')));
        }
        for (Method m : VaultHands.class.getDeclaredMethods()) {
            boolean hides = Modifier.isPrivate(m.getModifiers()) && names.contains(m.getName());
            Due.is("private " + m.getName() + " bears a public name", hides ? 1 : 0, 0);
        }
        for (Class<?> inside : VaultHands.class.getDeclaredClasses()) {
            Due.is(inside.getName() + " is static", Modifier.isStatic(inside.getModifiers()) ? 1 : 0, 1);
            for (Method m : inside.getDeclaredMethods()) {
                Due.is("method " + m.getName() + " inside bears a public name", names.contains(m.getName()) ? 1 : 0, 0);
            }
        }
    }
}
