import java.lang.reflect.Constructor;
import java.lang.reflect.Field;
import java.lang.reflect.Method;
import java.lang.reflect.Modifier;
import java.nio.charset.StandardCharsets;
import java.nio.file.Files;
import java.nio.file.Path;
import java.util.ArrayList;
import java.util.Arrays;
import java.util.List;
import java.util.TreeSet;
import java.util.regex.Matcher;
import java.util.regex.Pattern;

/** The face is the document's, no more and no less, and the text keeps to what can be seen of the rules. */
public final class FaceTest {
    private static final Check check = new Check("FaceTest");

    private static final String[] FACE = {
        "int addCondition(int, int) IllegalArgumentException IllegalStateException",
        "int setCost(int, int) IndexOutOfBoundsException IllegalArgumentException",
        "int addRow(int, int) IllegalArgumentException IllegalStateException",
        "int setAnswers(int, int, int) IndexOutOfBoundsException IllegalArgumentException",
        "int setAction(int, int) IndexOutOfBoundsException IllegalArgumentException",
        "int dropRow(int) IndexOutOfBoundsException",
        "int moveUp(int) IndexOutOfBoundsException IllegalStateException",
        "int merge(int) IndexOutOfBoundsException IllegalStateException",
        "int mergeAll()",
        "int prune()",
        "int condition(int, int) IndexOutOfBoundsException IllegalArgumentException",
        "int row(int, int) IndexOutOfBoundsException IllegalArgumentException",
        "int answers(int, int) IndexOutOfBoundsException",
        "int rowAt(int) IllegalArgumentException",
        "int caseOf(int, int) IndexOutOfBoundsException IllegalArgumentException",
        "int answerOf(int, int) IndexOutOfBoundsException",
        "int hole(int) IllegalArgumentException",
        "int whole(int) IllegalArgumentException",
        "int reason(int) IndexOutOfBoundsException",
        "int ask(int) IllegalArgumentException",
        "int costFrom(int) IllegalArgumentException",
        "int changedWithout(int) IndexOutOfBoundsException",
        "int bestAction(int) IndexOutOfBoundsException",
        "int type(int) IllegalArgumentException IllegalStateException",
        "int clearCommands()",
        "int runCommands()",
        "int undo() IllegalStateException",
        "long digest()"
    };

    private static final String[] WORDS_LEFT_OUT = {
        "import", "package", "try", "catch", "finally", "synchronized", "assert", "volatile", "native", "protected",
        "hashCode", "toString", "System.out", "Object", "Math.random", "nanoTime", "MAX_VALUE", "MIN_VALUE"
    };

    private static final List<String> LIBRARY = Arrays.asList("System.arraycopy", "Integer.bitCount");

    public static void main(String[] args) throws Exception {
        methods();
        constructorsAndFields();
        sizes();
        String text = Files.readString(Path.of("src/main/java/AskedRules.java"), StandardCharsets.US_ASCII);
        words(text);
        lengths(text);
        check.close();
    }

    private static void methods() {
        List<String> face = new ArrayList<>();
        TreeSet<String> names = new TreeSet<>();
        for (Method method : AskedRules.class.getDeclaredMethods()) {
            if (Modifier.isPublic(method.getModifiers())) {
                face.add(signature(method));
                names.add(method.getName());
            }
        }
        List<String> want = new ArrayList<>(Arrays.asList(FACE));
        face.sort(null);
        want.sort(null);
        check.same("the public methods", want.toString(), face.toString());
        for (Class<?> inside : AskedRules.class.getDeclaredClasses()) {
            check.same("static " + inside, "true", "" + Modifier.isStatic(inside.getModifiers()));
            for (Method method : inside.getDeclaredMethods()) {
                check.same("name of " + method, "false", "" + names.contains(method.getName()));
            }
        }
        for (Method method : AskedRules.class.getDeclaredMethods()) {
            int modifiers = method.getModifiers();
            boolean isPrivate = Modifier.isPrivate(modifiers);
            check.same("public or private " + method, "true", "" + (isPrivate || Modifier.isPublic(modifiers)));
            check.same("name of " + method, "false", "" + (isPrivate && names.contains(method.getName())));
        }
    }

    private static String signature(Method method) {
        StringBuilder text = new StringBuilder();
        text.append(method.getReturnType().getSimpleName()).append(' ').append(method.getName()).append('(');
        for (int i = 0; i < method.getParameterCount(); i++) {
            text.append(i > 0 ? ", " : "").append(method.getParameterTypes()[i].getSimpleName());
        }
        text.append(')');
        for (Class<?> thrown : method.getExceptionTypes()) {
            text.append(' ').append(thrown.getSimpleName());
        }
        return text.toString();
    }

    private static void constructorsAndFields() {
        Constructor<?>[] all = AskedRules.class.getDeclaredConstructors();
        check.due("constructors", 1, all.length);
        check.due("parameters", 0, all[0].getParameterCount());
        check.same("public constructor", "true", "" + Modifier.isPublic(all[0].getModifiers()));
        check.same("public class", "true", "" + Modifier.isPublic(AskedRules.class.getModifiers()));
        check.same("final class", "true", "" + Modifier.isFinal(AskedRules.class.getModifiers()));
        for (Field field : AskedRules.class.getDeclaredFields()) {
            boolean isFace = field.getName().equals("NONE");
            int modifiers = field.getModifiers();
            check.same("field " + field, "true", "" + (isFace ? Modifier.isPublic(modifiers) : Modifier.isPrivate(modifiers)));
            check.same("field " + field, "true", "" + (!Modifier.isStatic(modifiers) || Modifier.isFinal(modifiers)));
        }
    }

    /** Rule 11, and of rule 5 that all that is static is final. */
    private static void sizes() {
        List<Class<?>> all = new ArrayList<>(Arrays.asList(AskedRules.class.getDeclaredClasses()));
        all.add(AskedRules.class);
        check.same("few classes", "true", "" + (all.size() <= 12));
        for (Class<?> each : all) {
            int fields = 0;
            for (Field field : each.getDeclaredFields()) {
                boolean isStatic = Modifier.isStatic(field.getModifiers());
                fields += isStatic ? 0 : 1;
                check.same("field " + field, "true", "" + (!isStatic || Modifier.isFinal(field.getModifiers())));
            }
            check.same("few fields of " + each, "true", "" + (fields <= 20));
            for (Method method : each.getDeclaredMethods()) {
                check.same("few parameters of " + method, "true", "" + (method.getParameterCount() <= 7));
            }
        }
    }

    private static void words(String text) {
        String code = text.replaceAll("(?s)/\\*.*?\\*/", "").replaceAll("//[^\n]*", "");
        Matcher called = Pattern.compile("\\b[A-Z][A-Za-z]+\\.[a-z]\\w*(?=\\()").matcher(code);
        while (called.find()) {
            check.same("may be called: " + called.group(), "true", "" + LIBRARY.contains(called.group()));
        }
        check.same("joins texts by +", "false", "" + Pattern.compile("\" *\\+|\\+ *\"").matcher(code).find());
        for (String word : WORDS_LEFT_OUT) {
            boolean found = Pattern.compile("\\b" + Pattern.quote(word) + "\\b").matcher(code).find();
            check.same("has " + word, "false", "" + found);
        }
        check.same("has a lambda", "false", "" + code.contains("->"));
        check.same("has a method reference", "false", "" + code.contains("::"));
        Matcher thrown = Pattern.compile("throw\\b[^;]*;").matcher(code);
        Pattern right = Pattern.compile(
                "throw new (IllegalArgument|IllegalState|IndexOutOfBounds)Exception\\(\"[^\"]+\"\\);");
        while (thrown.find()) {
            check.same(thrown.group(), "true", "" + right.matcher(thrown.group()).matches());
        }
    }

    /** A method begins and ends four or eight signs in. */
    private static void lengths(String text) {
        String[] lines = text.split("\n");
        int start = 0;
        for (int i = 0; i < lines.length; i++) {
            if (lines[i].matches("( {4}| {8})[a-z].*\\(.*\\{")) {
                start = i;
            }
            if (lines[i].matches("( {4}| {8})\\}")) {
                check.same("short enough, up to line " + (i + 1), "true", "" + (i - start < 60));
                start = i;
            }
        }
    }
}
