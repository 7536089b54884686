import java.lang.reflect.Constructor;
import java.lang.reflect.Field;
import java.lang.reflect.Method;
import java.lang.reflect.Modifier;
import java.util.Arrays;
import java.util.Set;
import java.util.TreeSet;

/** The public face is the document's, and nothing else of the class is seen from outside. */
final class FaceTest {
    private static final String[] METHODS = {
        "int net()",
        "boolean shape(int, int, long, long, long, long)",
        "long gate(int, long)",
        "boolean diode(int, int, long)",
        "long ratio(int, int, int)",
        "boolean limit(int, long, long)",
        "int repair()",
        "int repaired(int, int)",
        "long density(int, long, long, int)",
        "boolean bounds(int, int, int)",
        "int fill(int, long, long, long)",
        "long piece(int, int, int)",
        "int told(int)",
        "int slot(int, long)",
        "int slotAt(int, long, int, int)",
        "int count(int)",
    };

    private FaceTest() {
    }

    public static void main(String[] args) {
        Check.same("public and final", AntennaFill.class.getModifiers(), Modifier.PUBLIC | Modifier.FINAL);
        methods();
        membersBesides();
        Check.end();
    }

    private static void methods() {
        Set<String> due = new TreeSet<>(Arrays.asList(METHODS));
        Set<String> names = new TreeSet<>();
        for (Method method : AntennaFill.class.getDeclaredMethods()) {
            if (Modifier.isPublic(method.getModifiers())) {
                Check.same("in the document: " + told(method), due.remove(told(method)), true);
                Check.same("not static: " + told(method), Modifier.isStatic(method.getModifiers()), false);
                names.add(method.getName());
            }
        }
        Check.same("methods that are missing: " + due, due.size(), 0);
        for (Method method : AntennaFill.class.getDeclaredMethods()) {
            if (!Modifier.isPublic(method.getModifiers()) && !method.isSynthetic()) {
                Check.same("private: " + told(method), Modifier.isPrivate(method.getModifiers()), true);
                Check.same("has its own name: " + told(method), names.contains(method.getName()), false);
            }
        }
    }

    private static String told(Method method) {
        StringBuilder text = new StringBuilder(method.getReturnType() + " " + method.getName() + "(");
        for (Class<?> type : method.getParameterTypes()) {
            text.append(text.charAt(text.length() - 1) == '(' ? "" : ", ").append(type);
        }
        return text.append(")").toString();
    }

    private static void membersBesides() {
        for (Field field : AntennaFill.class.getDeclaredFields()) {
            boolean constant = field.getName().equals("NONE");
            Check.same("modifiers of " + field.getName(), Modifier.isPrivate(field.getModifiers()), !constant);
        }
        Constructor<?>[] constructors = AntennaFill.class.getDeclaredConstructors();
        Check.same("constructors", constructors.length, 1);
        Check.same("public", Modifier.isPublic(constructors[0].getModifiers()), true);
        Check.same("of one int", Arrays.equals(constructors[0].getParameterTypes(), new Class<?>[] {int.class}), true);
    }
}
