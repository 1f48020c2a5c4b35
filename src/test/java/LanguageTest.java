import java.io.IOException;
import java.nio.file.Files;
import java.nio.file.Path;
import java.util.regex.Matcher;
import java.util.regex.Pattern;

/** What of LANGUAGE.md can be seen in the source's text; run from the project's root. */
public final class LanguageTest {
    private static final String[] FORBIDDEN = {
        "\\bthrow\\b", "\\btry\\b", "\\bcatch\\b", "\\bsynchronized\\b", "\\bassert\\b", "::", "(?m)^(?!.*\\b(case|default)\\b).*->",
        "\\bpackage\\b", "\\bprotected\\b", "Exact\\b", "\\bObject\\b", "@(?!Override\\b)\\w+", "\\bSystem\\.(?!arraycopy)",
        "\\bArrays\\.(?!fill|copyOf\\b|copyOfRange)", "Arrays\\.fill\\([^;]*\\b(true|false)\\)",
        "\\bwhile\\s*\\(true", "for\\s*\\(\\s*;", "\\bstatic\\s*\\{", "\\[\\]\\[\\]\\["
    };

    public static void main(String[] args) throws IOException {
        Check check = new Check();
        check.part("the source");
        String text = Files.readString(Path.of("src/main/java/AnyOrder.java"));
        check.holds("it is of plain characters", text.chars().allMatch(c -> c < 128));
        String code = text.replaceAll("(?s)/\\*.*?\\*/", "").replaceAll("//[^\n]*", "");
        for (String forbidden : FORBIDDEN) {
            Matcher matcher = Pattern.compile(forbidden).matcher(code);
            check.holds("there is no " + forbidden, !matcher.find());
        }
        Matcher imports = Pattern.compile("import ([\\w.]+);").matcher(code);
        while (imports.find()) {
            check.holds(imports.group(1) + " is allowed",
                imports.group(1).matches("java\\.util\\.(Arrays|ArrayList|List|Iterator)"));
        }
        Matcher nested = Pattern.compile("\n +([a-z ]*)class ").matcher(code);
        int classes = 1;
        while (nested.find()) {
            classes++;
            check.holds("a class inside is static", nested.group(1).contains("static "));
        }
        check.holds("there are twelve classes or fewer", classes <= 12);
        methodLengths(check, code);
        check.end();
    }

    private static void methodLengths(Check check, String code) {
        Matcher method = Pattern.compile("(?m)^( {4}| {8})(?=\\S)[\\w\\[\\] ]+\\(([^)]*)\\) \\{\n(?s:(.*?))^\\1\\}").matcher(code);
        int methods = 0;
        while (method.find()) {
            methods++;
            check.holds("short: " + method.group().lines().findFirst().get(), method.group(3).lines().count() <= 60);
            check.holds("seven parameters or fewer", method.group(2).split(",").length <= 7);
        }
        check.holds("the methods are seen", methods >= 30);
    }
}
