import java.lang.reflect.Constructor;
import java.lang.reflect.Field;
import java.lang.reflect.Method;
import java.lang.reflect.Modifier;
import java.nio.file.Files;
import java.nio.file.Path;
import java.util.Set;
import java.util.TreeSet;

/** The public face of the document, and what LANGUAGE.md leaves visible and usable. */
public final class FaceTest {
    private static final Set<String> FACE = Set.of(
            "int lit(long)", "int node(int,int,int,int)", "int part(int,int,int)", "int run(int,int)",
            "long value(int)", "int thing(int,int)", "int fault()", "int faultNode()", "int steps()",
            "void wipe()");

    private static final String[] BARRED = {
        "throw", "try", "catch", "synchronized", "assert", "volatile", "native", "->", "::"
    };

    public static void main(String[] args) throws Exception {
        Check check = new Check();
        Class<?> type = FrameTalk.class;
        check.due("public and final", type.getModifiers(), Modifier.PUBLIC | Modifier.FINAL);
        Set<String> visible = new TreeSet<>();
        for (Method method : type.getDeclaredMethods()) {
            if (!Modifier.isPrivate(method.getModifiers())) {
                visible.add(told(method));
            }
        }
        check.due("visible methods " + visible, visible.equals(FACE) ? 1 : 0, 1);
        for (Field field : type.getDeclaredFields()) {
            check.due(field + " is private", field.getModifiers() & Modifier.PRIVATE, Modifier.PRIVATE);
        }
        Constructor<?>[] constructors = type.getDeclaredConstructors();
        check.due("constructors", constructors.length, 1);
        check.due("the constructor's parameters", constructors[0].getParameterCount(), 0);
        check.due("the constructor is public", constructors[0].getModifiers(), Modifier.PUBLIC);
        checkClassesInside(check, type);
        checkBarredWords(check);
        check.end();
    }

    private static void checkClassesInside(Check check, Class<?> type) {
        for (Class<?> inside : type.getDeclaredClasses()) {
            int modifiers = inside.getModifiers();
            check.due(inside + " is static", modifiers & Modifier.STATIC, Modifier.STATIC);
            check.due(inside + " isn't public", modifiers & (Modifier.PUBLIC | Modifier.PROTECTED), 0);
            for (Method method : inside.getDeclaredMethods()) {
                check.due(method + " bears a name of the face", isNameOfFace(method.getName()) ? 1 : 0, 0);
            }
            for (Field field : inside.getDeclaredFields()) {
                boolean changing = Modifier.isStatic(field.getModifiers())
                        && !Modifier.isFinal(field.getModifiers());
                check.due(field + " is static and not final", changing ? 1 : 0, 0);
            }
        }
    }

    private static void checkBarredWords(Check check) throws Exception {
        String source = Files.readString(Path.of("src/main/java/FrameTalk.java"));
        String code = source.replaceAll("(?s)/\\*.*?\\*/", "").replaceAll("//[^\n]*", "");
        for (String barred : BARRED) {
            String pattern = Character.isLetter(barred.charAt(0)) ? "(?s).*\\b" + barred + "\\b.*"
                    : "(?s).*" + barred + ".*";
            check.due("'" + barred + "' in the code", code.matches(pattern) ? 1 : 0, 0);
        }
    }

    private static boolean isNameOfFace(String name) {
        for (String told : FACE) {
            if (told.contains(" " + name + "(")) {
                return true;
            }
        }
        return false;
    }

    private static String told(Method method) {
        StringBuilder text = new StringBuilder();
        text.append(method.getReturnType().getName()).append(' ').append(method.getName()).append('(');
        for (Class<?> parameter : method.getParameterTypes()) {
            text.append(text.charAt(text.length() - 1) == '(' ? "" : ",").append(parameter.getName());
        }
        return text.append(')').toString();
    }
}
