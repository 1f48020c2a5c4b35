import java.lang.reflect.Constructor;
import java.lang.reflect.Field;
import java.lang.reflect.Method;
import java.lang.reflect.Modifier;
import java.util.Arrays;
import java.util.Set;
import java.util.TreeSet;

/** The public face: the document's constants, constructor and methods, all of them and no others. */
public final class FaceTest {
    private static final String[] METHODS = {
        "int begin(int, int)", "int table(int, int, int)", "long entry(int, int, int)",
        "int may(int, int, boolean)", "long length(int, int)", "int extreme(int, int, int)",
        "int rings(int)", "long ringTrack(int)", "int ring(int, int)", "int growth(int, int, int)",
        "int close()", "int closed(int)", "long product(int, int, int)", "int times(int, int)",
        "int word(int, int, int, int)", "int join(int, int)", "int letter(int, int)",
        "int about(int, int)", "long entryOf(int, int, int)", "long size(int, int)",
        "int sheet(int, int, int)", "int lose(int)", "int put(int, int, int)", "long at(int, int, int)",
        "int tell(int)", "int weigh(int)", "int as(int, int)", "int history()", "int fault()", "int told(int)"
    };

    public static void main(String[] args) {
        Check check = new Check();
        check.part("constants");
        check.due("UNKNOWN", AnyOrder.UNKNOWN, -1);
        check.due("OUTSIDE", AnyOrder.OUTSIDE, -2);
        check.due("STATE", AnyOrder.STATE, -3);
        check.due("FULL", AnyOrder.FULL, -4);
        check.due("SPENT", AnyOrder.SPENT, -6);
        check.due("NONE", AnyOrder.NONE, -9);
        check.due("LOST", AnyOrder.LOST, Long.MIN_VALUE);
        visibleMembers(check);
        check.end();
    }

    private static void visibleMembers(Check check) {
        check.part("face");
        Set<String> methods = new TreeSet<>();
        Set<String> hidden = new TreeSet<>();
        for (Method method : AnyOrder.class.getDeclaredMethods()) {
            if (Modifier.isPrivate(method.getModifiers())) {
                hidden.add(method.getName());
            } else {
                methods.add(textOf(method));
                check.holds(method + " is public and of the object", method.getModifiers() == Modifier.PUBLIC);
            }
        }
        check.holds("the methods are " + methods, methods.equals(new TreeSet<>(Arrays.asList(METHODS))));
        for (Method method : AnyOrder.class.getDeclaredMethods()) {
            if (!Modifier.isPrivate(method.getModifiers())) {
                check.holds("no private method is named " + method.getName(), !hidden.contains(method.getName()));
            }
        }
        Set<String> fields = new TreeSet<>();
        for (Field field : AnyOrder.class.getDeclaredFields()) {
            if (!Modifier.isPrivate(field.getModifiers())) {
                fields.add(field.getType() + " " + field.getName());
            }
        }
        check.holds("the constants are " + fields, fields.equals(new TreeSet<>(Arrays.asList(
            "int UNKNOWN", "int OUTSIDE", "int STATE", "int FULL", "int SPENT", "int NONE", "long LOST"))));
        Constructor<?>[] constructors = AnyOrder.class.getDeclaredConstructors();
        check.due("constructors", constructors.length, 1);
        check.holds("the constructor is public", Modifier.isPublic(constructors[0].getModifiers()));
        check.holds("the class is public and final",
            AnyOrder.class.getModifiers() == (Modifier.PUBLIC | Modifier.FINAL));
    }

    private static String textOf(Method method) {
        StringBuilder text = new StringBuilder();
        text.append(method.getReturnType()).append(' ').append(method.getName()).append('(');
        for (int i = 0; i < method.getParameterCount(); i++) {
            text.append(i == 0 ? "" : ", ").append(method.getParameterTypes()[i]);
        }
        return text.append(')').toString();
    }
}
