import java.io.IOException;
import java.lang.reflect.Array;
import java.lang.reflect.Field;
import java.lang.reflect.Method;
import java.lang.reflect.Modifier;
import java.nio.file.Files;
import java.nio.file.Path;
import java.util.ArrayDeque;
import java.util.Deque;
import java.util.IdentityHashMap;
import java.util.List;
import java.util.Map;
import java.util.Set;
import java.util.TreeSet;
import java.util.regex.Matcher;
import java.util.regex.Pattern;

/** LANGUAGE.md, as far as the source's text and the compiled class tell, and the room that an object takes. */
final class RulesTest {
    private static final Path SOURCE = Path.of("src/main/java/AntennaFill.java");
    private static final Set<String> SIMPLE_TYPES = Set.of("int", "long", "boolean", "char", "class java.lang.String");
    // of what LANGUAGE.md lists, what the class uses: a call more is looked up there and put here
    private static final Set<String> LIBRARY = Set.of("Math.max", "Math.min", "Math.floorDiv",
            "Long.numberOfTrailingZeros");
    private static final Set<String> EXCEPTIONS = Set.of("IllegalStateException", "IllegalArgumentException",
            "IndexOutOfBoundsException");
    private static final List<String> FORBIDDEN = List.of("import", "package", "finally", "synchronized", "assert",
            "volatile", "native", "Object", "hashCode", "Thread", "Random", "protected");

    private RulesTest() {
    }

    public static void main(String[] args) throws IOException, IllegalAccessException {
        String source = Files.readString(SOURCE);
        plainSigns(source);
        String code = withoutTextsAndComments(source);
        words(code);
        throwsOf(source);
        libraryCalls(code);
        methodsAreShort(code);
        for (Class<?> type : AntennaFill.class.getDeclaredClasses()) {
            Check.same("static: " + type, Modifier.isStatic(type.getModifiers()), true);
            Check.same("not seen outside: " + type,
                    (type.getModifiers() & (Modifier.PUBLIC | Modifier.PROTECTED)) == 0, true);
            members(type);
        }
        members(AntennaFill.class);
        Check.same("at most 12 classes", AntennaFill.class.getDeclaredClasses().length < 12, true);
        room();
        Check.end();
    }

    private static void plainSigns(String source) {
        for (int at = 0; at < source.length(); at++) {
            char sign = source.charAt(at);
            Check.same("sign " + (int) sign + " at " + at, sign == '\n' || sign >= 32 && sign < 127, true);
        }
    }

    private static String withoutTextsAndComments(String source) {
        return source.replaceAll("(?s)/\\*.*?\\*/|//[^\n]*", "").replaceAll("\"[^\"\n]*\"", "\"\"");
    }

    private static void words(String code) {
        for (String word : FORBIDDEN) {
            Check.same("no " + word, Pattern.compile("\\b" + word + "\\b").matcher(code).find(), false);
        }
        Check.same("no lambda", code.contains("->"), false);
        Check.same("no method reference", code.contains("::"), false);
        Check.same("no text joined by +", Pattern.compile("\"\\s*\\+|\\+\\s*\"").matcher(code).find(), false);
        Check.same("no static block", Pattern.compile("static\\s*\\{").matcher(code).find(), false);
    }

    private static void throwsOf(String source) {
        Matcher all = Pattern.compile("\\bthrow\\b[^;]*;").matcher(source);
        Pattern due = Pattern.compile("throw new (\\w+)\\(\"[^\"]*\"\\);");
        while (all.find()) {
            Matcher one = due.matcher(all.group());
            Check.same("as it may be: " + all.group(), one.matches() && EXCEPTIONS.contains(one.group(1)), true);
        }
    }

    private static void libraryCalls(String code) {
        Matcher calls = Pattern.compile("\\b[A-Z][A-Za-z]*[a-z]\\.\\w+").matcher(code);
        while (calls.find()) {
            Check.same("in the library's part: " + calls.group(), LIBRARY.contains(calls.group()), true);
        }
    }

    /** By the source's own layout: a method or class of a class ends where its closing brace is as far in as it. */
    private static void methodsAreShort(String code) {
        Matcher methods = Pattern.compile("(?m)^( +)(?!.*\\bclass\\b)[a-z][^=;\n]*\\([^;=]*?\\{\n(?s:.*?)\n\\1\\}\n")
                .matcher(code);
        int found = 0;
        while (methods.find()) {
            found++;
            String first = methods.group().strip().lines().findFirst().orElse("");
            Check.same("at most 60 lines: " + first, methods.group().lines().count() <= 60, true);
        }
        Check.same("methods were found", found > 50, true);
    }

    private static void members(Class<?> type) {
        int fields = 0;
        for (Field field : type.getDeclaredFields()) {
            if (Modifier.isStatic(field.getModifiers())) {
                Check.same("final: " + field, Modifier.isFinal(field.getModifiers()), true);
                Check.same("a constant: " + field, SIMPLE_TYPES.contains(field.getType().toString()), true);
            } else {
                fields++;
            }
        }
        Check.same("at most 20 fields: " + type, fields <= 20, true);
        Set<String> face = new TreeSet<>();
        for (Method method : AntennaFill.class.getDeclaredMethods()) {
            if (Modifier.isPublic(method.getModifiers())) {
                face.add(method.getName());
            }
        }
        for (Method method : type.getDeclaredMethods()) {
            Check.same("at most 7 parameters: " + method, method.getParameterCount() <= 7, true);
            Check.same("a name of its own: " + method,
                    type == AntennaFill.class || !face.contains(method.getName()), true);
        }
    }

    /** What a run makes is made with the object: a hundred of the dearest ones are far from the room's end. */
    private static void room() throws IllegalAccessException {
        AntennaFill fill = new AntennaFill(64);
        long objects = heldBy(fill)[0];
        long parts = heldBy(fill)[1];
        Check.same("objects and arrays", objects < 50, true);
        Check.same("fields and elements", parts < 50000, true);
        for (int n = 0; n < 40; n++) {
            fill.net();
            fill.gate(n, 1);
        }
        for (int s = 0; s < 200; s++) {
            fill.shape(s % 40, s % 64, 4 * s, 0, 4 * s + 9, 900);
        }
        for (int layer = 0; layer < 64; layer++) {
            fill.limit(layer, 0, 1);
            fill.bounds(layer, 100, 100);
            fill.fill(layer, 20, 5, 3);
        }
        fill.repair();
        Check.same("no object more after many calls", heldBy(fill)[0], objects);
        Check.same("no element more after many calls", heldBy(fill)[1], parts);
    }

    private static long[] heldBy(AntennaFill fill) throws IllegalAccessException {
        Map<Object, Boolean> seen = new IdentityHashMap<>();
        Deque<Object> open = new ArrayDeque<>();
        open.add(fill);
        long parts = 0;
        while (!open.isEmpty()) {
            Object one = open.remove();
            if (seen.put(one, true) != null) {
                continue;
            }
            if (one.getClass().isArray()) {
                parts += Array.getLength(one);
                continue;
            }
            for (Field field : one.getClass().getDeclaredFields()) {
                if (!Modifier.isStatic(field.getModifiers())) {
                    parts++;
                    field.setAccessible(true);
                    if (!field.getType().isPrimitive() && field.get(one) != null) {
                        open.add(field.get(one));
                    }
                }
            }
        }
        return new long[] {seen.size(), parts};
    }
}
