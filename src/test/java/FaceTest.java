import java.io.IOException;
import java.lang.reflect.Constructor;
import java.lang.reflect.Field;
import java.lang.reflect.Method;
import java.lang.reflect.Modifier;
import java.nio.file.Files;
import java.nio.file.Path;
import java.util.TreeSet;
import java.util.regex.Pattern;

/** The face of the class is the document's and nothing else, and its text keeps to what the language leaves. */
public final class FaceTest {
    private static final Check CHECK = new Check("FaceTest");
    private static final String BOUNDS = "IndexOutOfBoundsException";
    private static final String ARGUMENT = "IllegalArgumentException";
    private static final String STATE = "IllegalStateException";
    private static final String NO_ELEMENT = "NoSuchElementException";
    private static final String[] FACE = {
        "int poke int int : " + BOUNDS + " " + ARGUMENT,
        "int peek int : " + BOUNDS,
        "int setRegister int int : " + BOUNDS + " " + ARGUMENT,
        "int register int : " + BOUNDS,
        "boolean flag char : " + ARGUMENT,
        "int place :",
        "int goTo int : " + BOUNDS,
        "char state :",
        "char fault : " + NO_ELEMENT,
        "int run int : " + ARGUMENT + " " + STATE,
        "int interrupt int : " + BOUNDS,
        "int interrupts :",
        "boolean waits :",
        "int outputs :",
        "int output int : " + BOUNDS,
        "int setTier int : " + ARGUMENT,
        "int setCache int : " + ARGUMENT,
        "int setHot int : " + ARGUMENT,
        "int flush :",
        "int blocks :",
        "int made :",
        "boolean isKept int : " + BOUNDS,
        "int startOf int : " + BOUNDS + " " + NO_ELEMENT,
        "int lengthOf int : " + BOUNDS + " " + NO_ELEMENT,
        "int bytesOf int : " + BOUNDS + " " + NO_ELEMENT,
        "int entries int : " + BOUNDS + " " + NO_ELEMENT,
        "int linkOf int boolean : " + BOUNDS + " " + NO_ELEMENT,
        "int partsOf int : " + BOUNDS + " " + NO_ELEMENT,
        "int blockAt int : " + BOUNDS + " " + NO_ELEMENT,
        "int lookUps :",
        "int chained :",
        "int longBlocks :",
        "int sideExits :",
        "int discarded :",
        "int skipped :",
        "long steps :",
        "boolean isSameBy int int : " + ARGUMENT + " " + STATE,
        "float chainShare : ArithmeticException",
        "double meanLength : ArithmeticException",
        "boolean isSound :"
    };

    public static void main(String[] args) throws IOException {
        face();
        classesInside();
        text();
        methods();
        CHECK.end();
    }

    private static String told(Method method) {
        StringBuilder text = new StringBuilder();
        text.append(method.getReturnType().getSimpleName()).append(' ').append(method.getName());
        for (Class<?> type : method.getParameterTypes()) {
            text.append(' ').append(type.getSimpleName());
        }
        text.append(" :");
        for (Class<?> type : method.getExceptionTypes()) {
            text.append(' ').append(type.getSimpleName());
        }
        return text.toString();
    }

    private static void face() {
        TreeSet<String> want = new TreeSet<>();
        TreeSet<String> names = new TreeSet<>();
        for (String line : FACE) {
            want.add(line);
            names.add(line.split(" ")[1]);
        }
        TreeSet<String> got = new TreeSet<>();
        for (Method method : HotTranslator.class.getDeclaredMethods()) {
            if (Modifier.isPrivate(method.getModifiers())) {
                CHECK.due("name of a private method: " + method.getName(), names.contains(method.getName()), false);
            } else {
                CHECK.due("public: " + method.getName(), Modifier.isPublic(method.getModifiers()), true);
                CHECK.due("static: " + method.getName(), Modifier.isStatic(method.getModifiers()), false);
                got.add(told(method));
            }
        }
        CHECK.due("the methods", got, want);
        Constructor<?>[] constructors = HotTranslator.class.getDeclaredConstructors();
        CHECK.due("one constructor", constructors.length, 1);
        CHECK.due("without parameters", constructors[0].getParameterCount(), 0);
        CHECK.due("public constructor", Modifier.isPublic(constructors[0].getModifiers()), true);
        CHECK.due("final class", Modifier.isFinal(HotTranslator.class.getModifiers()), true);
        for (Field field : HotTranslator.class.getDeclaredFields()) {
            CHECK.due("private: " + field.getName(), Modifier.isPrivate(field.getModifiers()), true);
        }
    }

    private static void classesInside() {
        for (Class<?> inside : HotTranslator.class.getDeclaredClasses()) {
            CHECK.due("private class " + inside.getSimpleName(), Modifier.isPrivate(inside.getModifiers()), true);
            CHECK.due("static class " + inside.getSimpleName(), Modifier.isStatic(inside.getModifiers()), true);
            int fields = 0;
            for (Field field : inside.getDeclaredFields()) {
                fields++;
                CHECK.due("no static field: " + field.getName(), Modifier.isStatic(field.getModifiers()), false);
            }
            CHECK.due("at most twenty fields in " + inside.getSimpleName(), fields <= 20, true);
        }
    }

    private static void text() throws IOException {
        String text = Files.readString(Path.of("src/main/java/HotTranslator.java"));
        String[] banned = {"->", "::", "\\bcatch\\b", "\\bfinally\\b", "\\bsynchronized\\b", "\\bassert\\b", "\\bwhile\\b",
            "System\\.(?!arraycopy)", "\\bpackage\\b", "\\binstanceof\\b", "\\bvar\\b", "[^\\x00-\\x7f]"};
        for (String pattern : banned) {
            CHECK.due("text has " + pattern, Pattern.compile(pattern).matcher(text).find(), false);
        }
        CHECK.due("one import", text.split("\nimport |^import ").length - 1, 1);
    }

    /** LANGUAGE.md, rule 11: short methods, few parameters, few classes. */
    private static void methods() throws IOException {
        int start = 0;
        int line = 0;
        for (String text : Files.readAllLines(Path.of("src/main/java/HotTranslator.java"))) {
            line++;
            if (text.matches("( {4}| {8})[a-z][^=;]*\\(.*\\{")) {
                start = line;
                CHECK.due("at most seven parameters in line " + line, text.split(",").length <= 7, true);
            } else if (text.matches("( {4}| {8})\\}") && start > 0) {
                CHECK.due("at most sixty lines up to line " + line, line - start < 60, true);
                start = 0;
            }
        }
        CHECK.due("at most twelve classes", HotTranslator.class.getDeclaredClasses().length < 12, true);
    }
}
