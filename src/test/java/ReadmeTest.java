import java.lang.reflect.InvocationTargetException;
import java.lang.reflect.Method;
import java.lang.reflect.Modifier;
import java.nio.file.DirectoryStream;
import java.nio.file.Files;
import java.nio.file.Path;
import java.util.regex.Matcher;
import java.util.regex.Pattern;

/** README.md: its example answers what it says, and no call and no test is left out. */
public final class ReadmeTest {
    private static final Check check = new Check("ReadmeTest");
    private static final Pattern CALL = Pattern.compile("rules\\.(\\w+)\\(([^)]*)\\);\\s+// (-?\\d+)( .*)?");
    private static final Pattern TEXT = Pattern.compile("for \\(char c : \"(.*)\"\\.toCharArray\\(\\)\\) \\{");

    public static void main(String[] args) throws Exception {
        String text = Files.readString(Path.of("README.md"));
        example(text);
        names(text);
        check.close();
    }

    private static void example(String text) throws Exception {
        Matcher block = Pattern.compile("(?s)```java\n(.*?)```").matcher(text);
        check.same("has an example", "true", "" + block.find());
        AskedRules rules = new AskedRules();
        for (String line : block.group(1).split("\n")) {
            Matcher call = CALL.matcher(line);
            Matcher typed = TEXT.matcher(line);
            if (call.matches()) {
                long want = Long.parseLong(call.group(3));
                check.due(line, want, answer(rules, call.group(1), call.group(2)));
            } else if (typed.matches()) {
                Tables.append(rules, typed.group(1));
            } else {
                check.same("is known: " + line, "true", "" + isFrame(line));
            }
        }
    }

    /** The lines whose answers are not told. */
    private static boolean isFrame(String line) {
        return line.equals("AskedRules rules = new AskedRules();") || line.equals("    rules.type(c);") || line.equals("}");
    }

    private static long answer(AskedRules rules, String name, String arguments) throws Exception {
        String[] parts = arguments.isEmpty() ? new String[0] : arguments.split(", ");
        Object[] values = new Object[parts.length];
        Class<?>[] types = new Class<?>[parts.length];
        for (int i = 0; i < parts.length; i++) {
            values[i] = Integer.decode(parts[i]);
            types[i] = int.class;
        }
        try {
            return ((Number) AskedRules.class.getMethod(name, types).invoke(rules, values)).longValue();
        } catch (InvocationTargetException e) {
            check.report(name + "(" + arguments + ") throws " + e.getCause());
            return Long.MIN_VALUE;
        }
    }

    private static void names(String text) throws Exception {
        for (Method method : AskedRules.class.getDeclaredMethods()) {
            if (Modifier.isPublic(method.getModifiers())) {
                check.same("names " + method.getName(), "true", "" + text.contains("`" + method.getName() + "`"));
            }
        }
        try (DirectoryStream<Path> tests = Files.newDirectoryStream(Path.of("src/test/java"), "*Test.java")) {
            for (Path test : tests) {
                String name = test.getFileName().toString().replace(".java", "");
                check.same("names " + name, "true", "" + text.contains("`" + name + "`"));
            }
        }
    }
}
