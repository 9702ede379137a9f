import java.lang.reflect.Executable;
import java.lang.reflect.Field;
import java.lang.reflect.Method;
import java.lang.reflect.Modifier;
import java.util.Arrays;
import java.util.Set;
import java.util.TreeSet;
import java.util.regex.Matcher;
import java.util.regex.Pattern;

/** The public face as ../shared/DOC.md writes it, and rules of ../shared/LANGUAGE.md that a text can show. */
final class FaceTests {
    private static final String DOC = "../shared/DOC.md";
    private static final String SOURCE = "src/main/java/HotMetalShop.java";

    private FaceTests() {
    }

    static void run() {
        Check.test("face: the methods of the document, and no others", FaceTests::methods);
        Check.test("face: nothing else is open", FaceTests::nothingElse);
        Check.test("rules: the source keeps off what they rule out", FaceTests::source);
    }

    private static void methods() {
        Set<String> due = new TreeSet<>();
        Matcher lines = Pattern.compile("(?m)^ {4}public ([^;]*\\([^;]*);$").matcher(Check.read(DOC));
        while (lines.find()) {
            due.add(lines.group(1));
        }
        Set<String> got = new TreeSet<>();
        got.add("HotMetalShop()");
        for (Method method : HotMetalShop.class.getDeclaredMethods()) {
            if (Modifier.isPublic(method.getModifiers())) {
                got.add(method.getReturnType().getSimpleName() + " " + method.getName() + call(method));
            }
        }
        Set<String> dueWithoutNames = new TreeSet<>();
        for (String face : due) {
            dueWithoutNames.add(face.replaceAll("(int|char) \\w+([,)])", "$1$2"));
        }
        Check.same("as many as the document has", 45, dueWithoutNames.size());
        Check.text("faces", dueWithoutNames.toString(), got.toString());
    }

    private static String call(Executable method) {
        StringBuilder text = new StringBuilder("(");
        for (Class<?> type : method.getParameterTypes()) {
            text.append(text.length() > 1 ? ", " : "").append(type.getSimpleName());
        }
        text.append(")");
        String between = " throws ";
        for (Class<?> type : method.getExceptionTypes()) {
            text.append(between).append(type.getSimpleName());
            between = ", ";
        }
        return text.toString();
    }

    private static void nothingElse() {
        Check.yes("final", Modifier.isFinal(HotMetalShop.class.getModifiers()));
        Check.same("constructors", 1, HotMetalShop.class.getDeclaredConstructors().length);
        Set<String> open = new TreeSet<>();
        for (Method method : HotMetalShop.class.getDeclaredMethods()) {
            if (Modifier.isPublic(method.getModifiers())) {
                open.add(method.getName());
            }
        }
        for (Method method : HotMetalShop.class.getDeclaredMethods()) {
            boolean isPrivate = Modifier.isPrivate(method.getModifiers());
            Check.yes(method + " is private or public", isPrivate || Modifier.isPublic(method.getModifiers()));
            Check.no(method + " has a public name", isPrivate && open.contains(method.getName()));
        }
        for (Field field : HotMetalShop.class.getDeclaredFields()) {
            Check.yes(field + " is private", Modifier.isPrivate(field.getModifiers()));
            Check.yes(field + " is final, if static",
                    !Modifier.isStatic(field.getModifiers()) || Modifier.isFinal(field.getModifiers()));
        }
        for (Class<?> inside : HotMetalShop.class.getDeclaredClasses()) {
            Check.no(inside + " is public", Modifier.isPublic(inside.getModifiers()));
            Check.yes(inside + " is static", Modifier.isStatic(inside.getModifiers()));
            for (Method method : inside.getDeclaredMethods()) {
                Check.no(method + " has a public name", open.contains(method.getName()));
            }
        }
    }

    private static void source() {
        String code = Check.read(SOURCE).replaceAll("(?s)/\\*.*?\\*/", "").replaceAll("//[^\n]*", "");
        for (String out : Arrays.asList("->", "::", "Exact(", "import java.util.*", "@")) {
            Check.no("source has " + out, code.contains(out));
        }
        for (String out : Arrays.asList("catch", "try", "finally", "synchronized", "assert", "package", "System\\.out",
                "instanceof", "equals", "hashCode", "toString", "Random", "Thread")) {
            Check.no("source has " + out, Pattern.compile("\\b" + out + "\\b").matcher(code).find());
        }
    }
}
