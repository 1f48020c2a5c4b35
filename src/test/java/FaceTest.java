import java.io.IOException;
import java.lang.reflect.Constructor;
import java.lang.reflect.Field;
import java.lang.reflect.Method;
import java.lang.reflect.Modifier;
import java.nio.file.Files;
import java.util.Arrays;
import java.util.Map;
import java.util.Set;
import java.util.TreeMap;
import java.util.TreeSet;
import java.util.regex.Matcher;
import java.util.regex.Pattern;

/** The public face: the document's constants, constructor and methods, all of them and no others. */
public final class FaceTest {
    private static final int CONSTANT = Modifier.PUBLIC | Modifier.STATIC | Modifier.FINAL;
    private static final String[] METHODS = {
        "int begin(int, int)", "int table(int, int, int)", "long entry(int, int, int)",
        "int may(int, int, boolean)", "long length(int, int)", "int extreme(int, int, int)",
        "int rings(int)", "long ringTrack(int)", "int ring(int, int)", "int growth(int, int, int)",
        "int close()", "int closed(int)", "long product(int, int, int)", "int times(int, int)",
        "int word(int, int, int, int)", "int join(int, int)", "int letter(int, int)",
        "int about(int, int)", "long entryOf(int, int, int)", "long size(int, int)",
        "int sheet(int, int, int)", "int lose(int)", "int put(int, int, int)", "long at(int, int, int)",
        "int tell(int)", "int weigh(int)", "int as(int, int)", "int history()", "int fault()", "int told(int)"
    };

    public static void main(String[] args) throws IOException, IllegalAccessException {
        Check check = new Check();
        constants(check);
        methods(check);
        hiddenMethods(check);
        constructors(check);
        theClass(check);
        document(check);
        check.end();
    }

    private static Map<String, Long> constantsDue() {
        Map<String, Long> due = new TreeMap<>();
        due.put("int UNKNOWN", -1L);
        due.put("int OUTSIDE", -2L);
        due.put("int STATE", -3L);
        due.put("int FULL", -4L);
        due.put("int SPENT", -6L);
        due.put("int NONE", -9L);
        due.put("long LOST", -9223372036854775808L);
        return due;
    }

    private static void constants(Check check) throws IllegalAccessException {
        check.part("constants");
        Map<String, Long> found = new TreeMap<>();
        for (Field field : AnyOrder.class.getDeclaredFields()) {
            if (!Modifier.isPrivate(field.getModifiers()) && !field.isSynthetic()) {
                check.holds(field + " is public, static and final", field.getModifiers() == CONSTANT);
                boolean isRead = field.getModifiers() == CONSTANT && field.getType().isPrimitive();
                found.put(field.getType() + " " + field.getName(), isRead ? field.getLong(null) : 0);
            }
        }
        check.holds("the constants are " + found, found.equals(constantsDue()));
    }

    private static void methods(Check check) {
        check.part("methods");
        Set<String> methods = new TreeSet<>();
        for (Method method : AnyOrder.class.getDeclaredMethods()) {
            if (!Modifier.isPrivate(method.getModifiers()) && !method.isSynthetic()) {
                methods.add(textOf(method));
                check.holds(method + " is public and of the object", method.getModifiers() == Modifier.PUBLIC);
                check.due(method + " names exceptions", method.getExceptionTypes().length, 0);
            }
        }
        check.holds("the methods are " + methods, methods.equals(new TreeSet<>(Arrays.asList(METHODS))));
    }

    private static void hiddenMethods(Check check) {
        Set<String> names = new TreeSet<>();
        for (String method : METHODS) {
            names.add(method.substring(method.indexOf(' ') + 1, method.indexOf('(')));
        }
        check.due("calls", names.size(), 30);
        for (Method method : AnyOrder.class.getDeclaredMethods()) {
            check.holds("no private method is named " + method.getName(),
                !Modifier.isPrivate(method.getModifiers()) || !names.contains(method.getName()));
        }
    }

    private static void constructors(Check check) {
        check.part("constructor");
        Constructor<?>[] constructors = AnyOrder.class.getDeclaredConstructors();
        check.due("constructors", constructors.length, 1);
        check.holds("the constructor is public", constructors[0].getModifiers() == Modifier.PUBLIC);
        check.due("its parameters", constructors[0].getParameterCount(), 0);
    }

    private static void theClass(Check check) {
        check.part("class");
        check.holds("the class is public and final",
            AnyOrder.class.getModifiers() == (Modifier.PUBLIC | Modifier.FINAL));
        check.holds("it is of no other class", AnyOrder.class.getSuperclass() == Object.class);
        check.due("interfaces", AnyOrder.class.getInterfaces().length, 0);
        for (Class<?> inside : AnyOrder.class.getDeclaredClasses()) {
            int modifiers = inside.getModifiers();
            check.holds(inside + " is static, and not public or protected", Modifier.isStatic(modifiers)
                && !Modifier.isPublic(modifiers) && !Modifier.isProtected(modifiers));
        }
    }

    /** The list above is the document's own. */
    private static void document(Check check) throws IOException {
        check.part("the document's face");
        String face = Files.readString(Document.PATH);
        Set<String> methods = new TreeSet<>();
        Matcher line = Pattern.compile("(?m)^ +public (int|long) (\\w+)\\(([^)]*)\\);").matcher(face);
        while (line.find()) {
            methods.add(line.group(1) + " " + line.group(2) + "(" + line.group(3).replaceAll(" \\w+(?=,|$)", "") + ")");
        }
        check.holds("its methods are " + methods, methods.equals(new TreeSet<>(Arrays.asList(METHODS))));
        for (Map.Entry<String, Long> constant : constantsDue().entrySet()) {
            String name = constant.getKey().substring(constant.getKey().indexOf(' ') + 1);
            String value = name.equals("LOST") ? "Long.MIN_VALUE" : Long.toString(constant.getValue());
            check.holds("it has " + name + " = " + value, face.contains(name + " = " + value));
        }
    }

    private static String textOf(Method method) {
        StringBuilder text = new StringBuilder();
        text.append(method.getReturnType()).append(' ').append(method.getName()).append('(');
        for (int i = 0; i < method.getParameterCount(); i++) {
            text.append(i == 0 ? "" : ", ").append(method.getParameterTypes()[i]);
        }
        return text.append(')').toString();
    }
}
