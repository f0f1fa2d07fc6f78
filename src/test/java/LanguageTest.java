import java.lang.reflect.Field;
import java.lang.reflect.Method;
import java.lang.reflect.Modifier;
import java.nio.file.Files;
import java.nio.file.Path;
import java.util.ArrayList;
import java.util.Arrays;
import java.util.List;
import java.util.Set;
import java.util.TreeSet;
import java.util.regex.Matcher;
import java.util.regex.Pattern;

/** The public face, as the document writes it, and the rules of LANGUAGE.md that a look at the file can tell. */
public final class LanguageTest {
    private static final Check check = new Check();

    public static void main(String[] args) throws Exception {
        face();
        constants();
        classes();
        text();
        check.finish();
    }

    private static String signature(Method m) {
        StringBuilder text = new StringBuilder(m.getReturnType().getSimpleName() + " " + m.getName() + "(");
        List<String> parts = new ArrayList<>();
        for (Class<?> c : m.getParameterTypes()) {
            parts.add(c.getSimpleName());
        }
        text.append(String.join(", ", parts)).append(")");
        parts.clear();
        for (Class<?> c : m.getExceptionTypes()) {
            parts.add(c.getSimpleName());
        }
        return text + (parts.isEmpty() ? "" : " throws " + String.join(", ", parts));
    }

    private static void face() throws Exception {
        Set<String> want = new TreeSet<>();
        Pattern line = Pattern.compile("    public (\\w+) (\\w+)\\((.*?)\\)(.*);");
        for (String text : Files.readAllLines(Path.of("../shared/DOC.md"))) {
            Matcher m = line.matcher(text);
            if (m.matches()) {
                String types = m.group(3).replaceAll("(\\w+) \\w+", "$1");
                want.add(m.group(1) + " " + m.group(2) + "(" + types + ")" + m.group(4));
            }
        }
        Set<String> got = new TreeSet<>();
        for (Method m : FlowExporter.class.getDeclaredMethods()) {
            if (Modifier.isPublic(m.getModifiers())) {
                got.add(signature(m));
                check.due("static " + m.getName(), Modifier.isStatic(m.getModifiers()), false);
            } else {
                check.due("private " + m.getName(), Modifier.isPrivate(m.getModifiers()), true);
            }
        }
        check.dueObject("the methods of the face", got, want);
        check.due("methods", want.size(), 59);
        check.due("constructors", FlowExporter.class.getDeclaredConstructors().length, 1);
        check.due("final", Modifier.isFinal(FlowExporter.class.getModifiers()), true);
    }

    private static void constants() {
        check.due("NONE", FlowExporter.NONE, -1);
        check.due("TEXT_ERROR", FlowExporter.TEXT_ERROR, -2);
        for (Field f : FlowExporter.class.getDeclaredFields()) {
            boolean open = Set.of("NONE", "TEXT_ERROR").contains(f.getName());
            check.due("private " + f.getName(), Modifier.isPrivate(f.getModifiers()), !open);
        }
    }

    private static void classes() {
        Set<String> face = new TreeSet<>();
        for (Method m : FlowExporter.class.getMethods()) {
            if (m.getDeclaringClass() == FlowExporter.class) {
                face.add(m.getName());
            }
        }
        List<Class<?>> all = new ArrayList<>(Arrays.asList(FlowExporter.class.getDeclaredClasses()));
        all.add(FlowExporter.class);
        check.due("at most twelve classes", all.size() <= 12, true);
        for (Class<?> c : all) {
            check.due("final " + c, Modifier.isFinal(c.getModifiers()), true);
            int fields = 0;
            for (Field f : c.getDeclaredFields()) {
                boolean still = Modifier.isStatic(f.getModifiers());
                check.due("final if static: " + f, !still || Modifier.isFinal(f.getModifiers()), true);
                fields += still ? 0 : 1;
            }
            check.due("fields of " + c, fields <= 20, true);
            for (Method m : c.getDeclaredMethods()) {
                check.due("parameters of " + m, m.getParameterCount() <= 7, true);
                boolean own = c == FlowExporter.class && Modifier.isPublic(m.getModifiers());
                check.due("a name of the face: " + m, own || !face.contains(m.getName()), true);
            }
        }
    }

    private static void text() throws Exception {
        String source = Files.readString(Path.of("src/main/java/FlowExporter.java"));
        String code = source.replaceAll("(?s)/\\*.*?\\*/", "").replaceAll("//[^\n]*", "");
        String[] refused = {"->", "::", "\\bcatch\\b", "\\btry\\b", "\\bfinally\\b", "\\bassert\\b", "synchronized",
            "Exact\\b", "Math\\.(?!min\\(|max\\()", "\\bFloat\\b", "\\bDouble\\b", "\\bInteger\\.", "\\bLong\\.",
            "System\\.(?!arraycopy\\()", "\\bpackage\\b", "import (?!java\\.util\\.Arrays;)", "\\brethrow\\b",
            "getMessage", "hashCode", "toString", "\\bstatic \\{", "\\[\\]\\[\\]\\[", "while \\(true\\)",
            "for \\(;;\\)", "\\bvar\\b", "instanceof", "\\bprotected\\b"};
        for (String pattern : refused) {
            check.due("the file has " + pattern, Pattern.compile(pattern).matcher(code).find(), false);
        }
        for (int k = 0; k < source.length(); k++) {
            check.due("sign " + k, source.charAt(k) < 128, true);
        }
        Matcher thrown = Pattern.compile("throw ([^;]*);").matcher(code);
        while (thrown.find()) {
            check.due(thrown.group(), thrown.group(1).matches(
                "new (IllegalStateException|IllegalArgumentException|IndexOutOfBoundsException|ArithmeticException)\\(\\)"),
                true);
        }
    }
}
