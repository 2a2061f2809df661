import java.io.IOException;
import java.lang.reflect.Constructor;
import java.lang.reflect.Field;
import java.lang.reflect.Method;
import java.lang.reflect.Modifier;
import java.nio.file.Files;
import java.nio.file.Path;
import java.util.Set;
import java.util.TreeSet;
import java.util.regex.Pattern;

/** The public face, and the rules of LANGUAGE.md that can be seen from outside. */
public final class FaceTest {
    private static final Checks CHECKS = new Checks();
    private static final Path SOURCE = Path.of("src/main/java/TapeMachine.java");

    public static void main(String[] args) throws IOException {
        faceIsTheDocuments();
        allElseIsPrivate();
        innerClassesAreStatic();
        staticFieldsAreFinal(TapeMachine.class);
        forbiddenWordsAreAbsent();
        sizesStaySmall();
        CHECKS.end();
    }

    private static void faceIsTheDocuments() {
        Set<String> want = new TreeSet<>(Set.of(
                "boolean feed(int)", "int waiting()", "int poke(int,int)", "int peek(int)",
                "boolean set(int,int)", "int register(int)", "boolean go()", "int run(int)",
                "int printed(int)", "int trace(int)", "int interrupts()", "int skips()"));
        Set<String> got = new TreeSet<>();
        for (Method m : TapeMachine.class.getDeclaredMethods()) {
            if (!Modifier.isPrivate(m.getModifiers())) {
                got.add(signature(m));
            }
        }
        CHECKS.due("public methods " + got, got.equals(want), true);
        CHECKS.due("the class is public and final",
                TapeMachine.class.getModifiers(), Modifier.PUBLIC | Modifier.FINAL);
        Constructor<?>[] constructors = TapeMachine.class.getDeclaredConstructors();
        CHECKS.due("number of constructors", constructors.length, 1);
        CHECKS.due("the constructor is public", constructors[0].getModifiers(), Modifier.PUBLIC);
        CHECKS.due("the constructor's parameters", constructors[0].getParameterCount(), 0);
    }

    private static String signature(Method m) {
        StringBuilder parameters = new StringBuilder();
        for (Class<?> type : m.getParameterTypes()) {
            parameters.append(parameters.length() == 0 ? "" : ",").append(type.getName());
        }
        return m.getReturnType().getName() + " " + m.getName() + "(" + parameters + ")";
    }

    private static void allElseIsPrivate() {
        Set<String> open = new TreeSet<>();
        for (Method m : TapeMachine.class.getDeclaredMethods()) {
            if (!Modifier.isPrivate(m.getModifiers())) {
                CHECKS.due(m.getName() + " is public and no more", m.getModifiers(), Modifier.PUBLIC);
                open.add(m.getName());
            }
        }
        for (Method m : TapeMachine.class.getDeclaredMethods()) {
            if (Modifier.isPrivate(m.getModifiers())) {
                CHECKS.due("private " + m.getName() + " bears a public name", open.contains(m.getName()), false);
            }
        }
        for (Field f : TapeMachine.class.getDeclaredFields()) {
            CHECKS.due("field " + f.getName() + " is private", Modifier.isPrivate(f.getModifiers()), true);
        }
    }

    private static void innerClassesAreStatic() {
        for (Class<?> c : TapeMachine.class.getDeclaredClasses()) {
            CHECKS.due(c.getName() + " is static", Modifier.isStatic(c.getModifiers()), true);
            CHECKS.due(c.getName() + " is open", has(c.getModifiers(), Modifier.PUBLIC | Modifier.PROTECTED), false);
            staticFieldsAreFinal(c);
        }
    }

    private static void staticFieldsAreFinal(Class<?> c) {
        int own = 0;
        for (Field f : c.getDeclaredFields()) {
            if (Modifier.isStatic(f.getModifiers())) {
                CHECKS.due("static field " + f.getName() + " is final", Modifier.isFinal(f.getModifiers()), true);
            } else {
                own++;
            }
        }
        CHECKS.due(c.getName() + " has at most twenty fields", own <= 20, true);
    }

    private static boolean has(int modifiers, int some) {
        return (modifiers & some) != 0;
    }

    private static String code() throws IOException {
        return Files.readString(SOURCE)
                .replaceAll("(?s)/\\*.*?\\*/", "")
                .replaceAll("//.*", "");
    }

    private static void forbiddenWordsAreAbsent() throws IOException {
        String code = code();
        String[] forbidden = {
            "\\b(throw|throws|try|catch|synchronized|assert|import|package|protected)\\b",
            "->", "::", "\\bstatic\\s*\\{", "\\bSystem\\.(?!arraycopy)", "Exact\\b",
        };
        for (String f : forbidden) {
            CHECKS.due("the program holds " + f, Pattern.compile(f).matcher(code).find(), false);
        }
    }

    /** Rule 11: seven parameters, methods of some sixty lines, some twelve classes. */
    private static void sizesStaySmall() throws IOException {
        CHECKS.due("at most twelve classes", TapeMachine.class.getDeclaredClasses().length < 12, true);
        for (Method m : TapeMachine.class.getDeclaredMethods()) {
            CHECKS.due(m.getName() + " takes at most seven", m.getParameterCount() <= 7, true);
        }
        int lines = 0;
        for (String line : code().split("\n")) {
            // A method of the class begins at four places and ends there.
            lines = line.matches(" {4}\\w.*\\{") ? 1 : lines + 1;
            boolean ends = line.equals("    }");
            CHECKS.due("a method or a class inside of " + lines + " lines", ends && lines > 60, false);
        }
    }
}
