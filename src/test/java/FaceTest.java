import java.io.IOException;
import java.lang.reflect.Constructor;
import java.lang.reflect.Field;
import java.lang.reflect.Method;
import java.lang.reflect.Modifier;
import java.nio.file.Files;
import java.nio.file.Path;
import java.util.ArrayList;
import java.util.Arrays;
import java.util.Collections;
import java.util.List;
import java.util.regex.Matcher;
import java.util.regex.Pattern;

/** The public face, and those rules of LANGUAGE.md that can be seen in the file; its path is the argument. */
public final class FaceTest {
    private static final String ARGUMENT_STATE = " throws IllegalArgumentException IllegalStateException";
    private static final String STATE_INDEX = " throws IllegalStateException IndexOutOfBoundsException";
    private static final List<String> FACE = List.of(
            "int box(int)" + ARGUMENT_STATE,
            "int glue(int,int,int,int)" + ARGUMENT_STATE,
            "int penalty(int,int,boolean)" + ARGUMENT_STATE,
            "int clear()",
            "void width(int,int) throws IllegalArgumentException",
            "int setting(int,int) throws IllegalArgumentException",
            "int breakUp() throws IllegalStateException",
            "int pass() throws IllegalStateException",
            "long demerits() throws IllegalStateException",
            "int line(int,int)" + STATE_INDEX,
            "int over() throws IllegalStateException",
            "int lineOf(int)" + STATE_INDEX,
            "int place(int)" + STATE_INDEX);

    private FaceTest() {
    }

    public static void main(String[] args) throws IOException {
        checkFace();
        checkNested();
        checkSource(Files.readString(Path.of(args[0])));
        Check.finish("FaceTest");
    }

    private static void checkFace() {
        Class<?> face = OptimalLines.class;
        Check.same("the class", Modifier.toString(face.getModifiers()), "public final");
        List<String> methods = new ArrayList<>();
        for (Method method : face.getDeclaredMethods()) {
            if (!Modifier.isPrivate(method.getModifiers())) {
                Check.same(method.getName(), Modifier.toString(method.getModifiers()), "public");
                methods.add(describe(method));
            } else {
                checkOwnMethod(method);
            }
        }
        List<String> due = new ArrayList<>(FACE);
        Collections.sort(due);
        Collections.sort(methods);
        Check.same("the methods", methods.toString(), due.toString());
        Constructor<?>[] makers = face.getDeclaredConstructors();
        Check.same("the constructors", Arrays.toString(makers), "[public OptimalLines()]");
        for (Field field : face.getDeclaredFields()) {
            if (!Modifier.isPrivate(field.getModifiers())) {
                Check.same("a field", field.toString(), "public static final int OptimalLines.NONE");
            }
        }
        Check.answers("NONE", () -> OptimalLines.NONE, -1);
    }

    private static String describe(Method method) {
        StringBuilder text = new StringBuilder(method.getReturnType().getSimpleName());
        text.append(' ').append(method.getName()).append('(');
        for (int i = 0; i < method.getParameterCount(); i++) {
            text.append(i == 0 ? "" : ",").append(method.getParameterTypes()[i].getSimpleName());
        }
        text.append(')').append(method.getExceptionTypes().length == 0 ? "" : " throws");
        for (Class<?> thrown : method.getExceptionTypes()) {
            text.append(' ').append(thrown.getSimpleName());
        }
        return text.toString();
    }

    private static void checkNested() {
        Class<?>[] nested = OptimalLines.class.getDeclaredClasses();
        Check.isTrue("at most twelve classes", nested.length < 12);
        for (Class<?> one : nested) {
            String modifiers = Modifier.toString(one.getModifiers());
            Check.isTrue(one + " is static and not public",
                    modifiers.contains("static") && !modifiers.contains("public"));
            for (Method method : one.getDeclaredMethods()) {
                checkOwnMethod(method);
            }
            for (Field field : one.getDeclaredFields()) {
                Check.isTrue(field + " is no changing static",
                        !Modifier.isStatic(field.getModifiers()) || Modifier.isFinal(field.getModifiers()));
            }
        }
    }

    private static void checkOwnMethod(Method method) {
        Check.isTrue(method + " bears no name of the face",
                FACE.stream().noneMatch(m -> m.contains(" " + method.getName() + "(")));
        Check.isTrue(method + " has at most seven parameters", method.getParameterCount() <= 7);
    }

    private static void checkSource(String source) {
        String code = source.replaceAll("(?s)/\\*.*?\\*/", "").replaceAll("//.*", "").replaceAll("\"[^\"]*\"", "\"\"");
        Matcher imports = Pattern.compile("import [^;]*;").matcher(code);
        while (imports.find()) {
            Check.same("an import", imports.group(), "import java.util.Arrays;");
        }
        for (String word : new String[] {"try", "catch", "finally", "synchronized", "assert", "package", "protected",
                "System", "Random", "Thread", "double", "float", "Object", "equals", "hashCode", "toString"}) {
            Check.isTrue("no " + word, !Pattern.compile("\\b" + word + "\\b").matcher(code).find());
        }
        for (String sign : new String[] {"->", "::", "Exact(", "while (true)", "for (;;)"}) {
            Check.isTrue("no " + sign, !code.contains(sign));
        }
        Check.isTrue("Latin characters alone", source.chars().allMatch(c -> c <= 255));
    }
}
