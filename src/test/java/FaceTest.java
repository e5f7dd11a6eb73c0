import java.io.IOException;
import java.lang.reflect.Constructor;
import java.lang.reflect.Field;
import java.lang.reflect.Method;
import java.lang.reflect.Modifier;
import java.nio.file.Files;
import java.nio.file.Path;
import java.util.ArrayList;
import java.util.Arrays;
import java.util.HashSet;
import java.util.List;
import java.util.Set;
import java.util.TreeSet;
import java.util.regex.Matcher;
import java.util.regex.Pattern;

/**
 * The face of the document, and those rules of LANGUAGE.md that can be seen from outside or in the
 * text. First argument: the file of the class.
 */
public final class FaceTest {
    private static final Check CHECK = new Check();
    private static final String ARGUMENT_STATE = " IllegalArgumentException IllegalStateException";
    private static final String ALL_THREE = " NoSuchElementException IllegalArgumentException IllegalStateException";
    private static final Set<String> FACE = Set.of(
            "int purpose int" + ARGUMENT_STATE,
            "int kind int" + ARGUMENT_STATE,
            "int consent int int boolean int" + ARGUMENT_STATE,
            "int contract int int int int" + ARGUMENT_STATE,
            "int duty int int int" + ARGUMENT_STATE,
            "int put int int int int" + ARGUMENT_STATE,
            "int derive int int int" + ALL_THREE,
            "int event int int int" + ARGUMENT_STATE,
            "int hold int int int" + ARGUMENT_STATE,
            "void lift int int" + ARGUMENT_STATE,
            "long use int int int" + ALL_THREE,
            "int why",
            "int erase int int IllegalArgumentException",
            "int sweep int IllegalArgumentException",
            "int held int int",
            "int logged int int",
            "long peek int",
            "int look int int",
            "int state int");
    private static final Pattern METHOD = Pattern.compile("(?ms)^((?: {4}){1,2})(\\w[^\\n;=]*\\([^;{]*\\{)$.*?^\\1\\}");
    private static final String[] RULED_OUT = {
        "\\btry\\b", "\\bcatch\\b", "\\bfinally\\b", "\\bsynchronized\\b", "\\bassert\\b", "->", "::",
        "\\bstatic\\s*\\{", "^\\s*package\\b", "\\bpublic\\s+(?!final class ConsentRegister|ConsentRegister\\(|int |long |void )",
        "Exact\\s*\\(", "\\bSystem\\.(?!arraycopy)", "\\bThread\\b", "\\bRandom\\b", "\\bdouble\\b", "\\bfloat\\b",
        "\\bInteger\\.M", "\\bLong\\.M", "\\bjava\\.(?!util\\.NoSuchElementException;)"};

    public static void main(String[] args) throws IOException {
        face();
        rule1NothingElseIsSeen();
        rule1NamesApart();
        rule5StaticFieldsAreFinal();
        rule11Sizes();
        String source = Files.readString(Path.of(args[0]));
        rule11MethodsAreShort(source);
        text(source);
        CHECK.end();
    }

    private static List<Class<?>> classes() {
        List<Class<?>> all = new ArrayList<>(List.of(ConsentRegister.class));
        all.addAll(Arrays.asList(ConsentRegister.class.getDeclaredClasses()));
        return all;
    }

    private static String told(Method method) {
        List<String> words = new ArrayList<>(List.of(method.getReturnType().getSimpleName(), method.getName()));
        for (Class<?> type : method.getParameterTypes()) {
            words.add(type.getSimpleName());
        }
        for (Class<?> type : method.getExceptionTypes()) {
            words.add(type.getSimpleName());
        }
        return String.join(" ", words);
    }

    private static void face() {
        int modifiers = ConsentRegister.class.getModifiers();
        CHECK.that("the class is public and final", Modifier.isPublic(modifiers) && Modifier.isFinal(modifiers));
        CHECK.same("constructors", ConsentRegister.class.getDeclaredConstructors().length, 1);
        for (Constructor<?> made : ConsentRegister.class.getDeclaredConstructors()) {
            CHECK.that("the constructor is public, without parameters",
                    Modifier.isPublic(made.getModifiers()) && made.getParameterCount() == 0);
        }
        Set<String> seen = new TreeSet<>();
        for (Method method : ConsentRegister.class.getDeclaredMethods()) {
            if (Modifier.isPublic(method.getModifiers())) {
                seen.add(told(method));
                CHECK.that(method + " is no static one", !Modifier.isStatic(method.getModifiers()));
            }
        }
        CHECK.that("the face is " + seen, seen.equals(FACE));
    }

    private static void rule1NothingElseIsSeen() {
        for (Method method : ConsentRegister.class.getDeclaredMethods()) {
            int modifiers = method.getModifiers();
            CHECK.that(method + " is public or private", Modifier.isPublic(modifiers) || Modifier.isPrivate(modifiers));
        }
        for (Field field : ConsentRegister.class.getDeclaredFields()) {
            CHECK.that(field + " is private", Modifier.isPrivate(field.getModifiers()));
        }
        for (Class<?> inside : ConsentRegister.class.getDeclaredClasses()) {
            int modifiers = inside.getModifiers();
            CHECK.that(inside + " is static and not public or protected", Modifier.isStatic(modifiers)
                    && !Modifier.isPublic(modifiers) && !Modifier.isProtected(modifiers));
        }
    }

    private static void rule1NamesApart() {
        Set<String> names = new HashSet<>();
        for (String method : FACE) {
            names.add(method.split(" ")[1]);
        }
        for (Class<?> type : classes()) {
            for (Method method : type.getDeclaredMethods()) {
                boolean open = type == ConsentRegister.class && Modifier.isPublic(method.getModifiers());
                CHECK.that(method + " bears a name of the face", open || !names.contains(method.getName()));
            }
        }
    }

    private static void rule5StaticFieldsAreFinal() {
        for (Class<?> type : classes()) {
            for (Field field : type.getDeclaredFields()) {
                int modifiers = field.getModifiers();
                CHECK.that(field + " is final", !Modifier.isStatic(modifiers) || Modifier.isFinal(modifiers));
            }
        }
    }

    private static void rule11Sizes() {
        CHECK.that("at most twelve classes", classes().size() <= 12);
        for (Class<?> type : classes()) {
            long fields = Arrays.stream(type.getDeclaredFields()).filter(f -> !Modifier.isStatic(f.getModifiers())).count();
            CHECK.that("at most twenty fields in " + type, fields <= 20);
            for (Method method : type.getDeclaredMethods()) {
                CHECK.that("at most seven parameters of " + method, method.getParameterCount() <= 7);
            }
        }
    }

    private static void text(String source) {
        String code = source.replaceAll("(?s)/\\*.*?\\*/", "").replaceAll("//[^\n]*", "").replaceAll("\"[^\"\n]*\"", "\"\"");
        for (String out : RULED_OUT) {
            CHECK.that("the text has " + out, !Pattern.compile(out, Pattern.MULTILINE).matcher(code).find());
        }
    }

    /** A method begins at a line that ends with its brace, and ends at the brace below its first letter. */
    private static void rule11MethodsAreShort(String source) {
        Matcher method = METHOD.matcher(source);
        int methods = 0;
        while (method.find()) {
            methods++;
            long lines = method.group().lines().count();
            CHECK.that("a method of " + lines + " lines: " + method.group(2), lines <= 60);
        }
        CHECK.that("methods were found", methods > FACE.size());
    }
}
