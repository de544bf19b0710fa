import java.lang.reflect.Constructor;
import java.lang.reflect.Field;
import java.lang.reflect.Method;
import java.lang.reflect.Modifier;
import java.util.Set;
import java.util.TreeSet;

/** The public face is that of the document, and nothing but private members stands beside it. */
final class FaceTest {
    private static final Set<String> METHODS = Set.of(
            "int code(int,int,int,int,int)", "boolean clear(int)", "int start(int,int,int,int)", "int step(int)",
            "int run(int,int)", "int advance()", "int flush(int)", "int crash()", "int transaction(int,int)",
            "int result(int)", "int entry(int,int)", "int leaf(int,int)", "int worker(int,int)",
            "int register(int,int)", "int log(int,int)", "int epoch(int)");

    public static void main(String[] args) {
        int kind = EpochLeaves.class.getModifiers();
        Check.due("public", Modifier.isPublic(kind), true);
        Check.due("final", Modifier.isFinal(kind), true);
        constants();
        constructors();
        methods();
        Check.end();
    }

    private static void constants() {
        Check.due("BAD", EpochLeaves.BAD, -1);
        Check.due("BUSY", EpochLeaves.BUSY, -2);
        Check.due("FULL", EpochLeaves.FULL, -3);
        Set<String> open = new TreeSet<>();
        for (Field field : EpochLeaves.class.getDeclaredFields()) {
            if (!Modifier.isPrivate(field.getModifiers())) {
                open.add(field.getName());
            }
        }
        Check.due("fields " + open, open.equals(Set.of("BAD", "BUSY", "FULL")), true);
    }

    private static void constructors() {
        Constructor<?>[] all = EpochLeaves.class.getDeclaredConstructors();
        Check.due("constructors", all.length, 1);
        Check.due("parameters", all[0].getParameterCount(), 0);
        Check.due("public constructor", Modifier.isPublic(all[0].getModifiers()), true);
    }

    private static void methods() {
        Set<String> open = new TreeSet<>();
        Set<String> openNames = new TreeSet<>();
        Set<String> hiddenNames = new TreeSet<>();
        for (Method method : EpochLeaves.class.getDeclaredMethods()) {
            if (Modifier.isPrivate(method.getModifiers())) {
                hiddenNames.add(method.getName());
            } else {
                open.add(shape(method));
                openNames.add(method.getName());
            }
        }
        Check.due("methods " + open, open.equals(METHODS), true);
        hiddenNames.retainAll(openNames);
        Check.due("private methods with a public name " + hiddenNames, hiddenNames.isEmpty(), true);
    }

    private static String shape(Method method) {
        StringBuilder text = new StringBuilder(method.getReturnType() + " " + method.getName() + "(");
        for (Class<?> type : method.getParameterTypes()) {
            text.append(text.charAt(text.length() - 1) == '(' ? "" : ",").append(type);
        }
        return text.append(")").toString();
    }
}
