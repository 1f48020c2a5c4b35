import java.io.IOException;
import java.lang.reflect.Method;
import java.lang.reflect.Modifier;
import java.nio.file.Files;
import java.nio.file.Path;

/** The example that README.md gives answers as it says there; run from the project's root. */
public final class ReadmeTest {
    public static void main(String[] args) throws IOException {
        Check check = new Check();
        check.part("README.md");
        AnyOrder x = new AnyOrder();
        x.sheet(0, 2, 6);
        x.put(0, 0, 1);
        x.put(0, 1, 1);
        x.put(0, 3, 1);
        x.put(0, 4, 1);
        check.due("table", x.table(0, 2, 0), 0);
        check.due("table", x.table(0, 2, 1), 1);
        check.due("length", x.length(3, 0), 8);
        check.due("length", x.length(3, 1), 5);
        check.due("extreme", x.extreme(3, 0, 0), 0);
        check.due("extreme", x.extreme(3, 0, 1), 0);
        check.due("extreme", x.extreme(3, 0, 2), 1);
        check.due("rings", x.rings(3), 2);
        check.due("growth by 3", x.growth(4, 3, 3), 0);
        check.due("growth by 4", x.growth(4, 3, 4), 1);
        check.due("word", x.word(0, 2, 2, 2), 0);
        check.due("size", x.size(0, 1), 3);
        check.due("close", x.close(), -6);
        check.due("begin", x.begin(2, 2), 1);
        check.due("table", x.table(0, 2, 0), 0);
        check.due("table", x.table(0, 2, 1), 1);
        check.due("close", x.close(), 6);
        check.due("closed", x.closed(2), 2);
        everyCallIsNamed(check);
        check.end();
    }

    private static void everyCallIsNamed(Check check) throws IOException {
        String readme = Files.readString(Path.of("README.md"));
        for (Method method : AnyOrder.class.getDeclaredMethods()) {
            if (Modifier.isPublic(method.getModifiers())) {
                check.holds("it names " + method.getName(), readme.contains("`" + method.getName() + "`"));
            }
        }
    }
}
