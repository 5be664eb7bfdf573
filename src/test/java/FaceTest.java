import java.lang.reflect.Constructor;
import java.lang.reflect.Field;
import java.lang.reflect.Method;
import java.lang.reflect.Modifier;
import java.util.ArrayList;
import java.util.Arrays;
import java.util.List;
import java.util.TreeSet;

/** The public face is the document's, and nothing else of the class can be seen. */
final class FaceTest {
    private static final String[] FACE = {
        "int append(int) IllegalArgumentException IllegalStateException",
        "int bestGuard()",
        "int bestPlace()",
        "int change(int) IndexOutOfBoundsException",
        "int clearBuffer()",
        "int count(int) IllegalArgumentException",
        "int cross(int, int) IndexOutOfBoundsException",
        "int firstError()",
        "int go(int) IllegalArgumentException",
        "int goBack(int) IllegalArgumentException IllegalStateException",
        "int guard(int) IndexOutOfBoundsException",
        "int ifGone(int, int) IllegalArgumentException",
        "int ifLoaded(int) IndexOutOfBoundsException",
        "int keep(int) IllegalArgumentException",
        "int lastsFor(int) IndexOutOfBoundsException",
        "int lay(int, int) IndexOutOfBoundsException IllegalArgumentException",
        "int load(int) IndexOutOfBoundsException IllegalArgumentException",
        "int machine(int) IllegalArgumentException",
        "int read(int) IndexOutOfBoundsException",
        "int ringOf(int, int) IndexOutOfBoundsException IllegalArgumentException",
        "int set(int, int) IndexOutOfBoundsException IllegalArgumentException",
        "int setting(int) IndexOutOfBoundsException",
        "int start()",
        "int strength(int, int, int) IndexOutOfBoundsException IllegalArgumentException",
        "int threadOf(int, int) IndexOutOfBoundsException IllegalArgumentException",
        "int told(int) IllegalArgumentException",
        "int undo() IllegalStateException",
        "int write(int, int) IndexOutOfBoundsException",
        "double rightShare()",
        "float meanWear()",
        "long digest()",
    };

    private static String told(Method method) {
        StringBuilder text = new StringBuilder(method.getReturnType().getName());
        List<String> parameters = new ArrayList<>();
        for (Class<?> type : method.getParameterTypes()) {
            parameters.add(type.getName());
        }
        text.append(' ').append(method.getName()).append('(').append(String.join(", ", parameters)).append(')');
        for (Class<?> type : method.getExceptionTypes()) {
            text.append(' ').append(type.getSimpleName());
        }
        return text.toString();
    }

    public static void main(String[] args) {
        Check check = new Check("FaceTest");
        Class<?> loom = WireLoom.class;
        check.due("public and final", loom.getModifiers() == (Modifier.PUBLIC | Modifier.FINAL));
        List<String> face = new ArrayList<>();
        TreeSet<String> publicNames = new TreeSet<>();
        for (Method method : loom.getDeclaredMethods()) {
            if (Modifier.isPublic(method.getModifiers())) {
                face.add(told(method));
                publicNames.add(method.getName());
                check.due(method + " is not static", !Modifier.isStatic(method.getModifiers()));
            }
        }
        for (String call : FACE) {
            check.due("the face has " + call, face.remove(call));
        }
        check.due("the face has nothing else than the document's: " + face, face.isEmpty());
        for (Method method : loom.getDeclaredMethods()) {
            if (!Modifier.isPublic(method.getModifiers())) {
                check.due(method + " is private", Modifier.isPrivate(method.getModifiers()));
                check.due(method + " has a name of its own", !publicNames.contains(method.getName()));
            }
        }
        for (Field field : loom.getDeclaredFields()) {
            boolean isNone = field.getName().equals("NONE");
            check.due(field + " is as it may be", isNone ? Modifier.isPublic(field.getModifiers())
                : Modifier.isPrivate(field.getModifiers()));
        }
        Constructor<?>[] constructors = loom.getDeclaredConstructors();
        check.due("one public constructor without arguments", constructors.length == 1
            && Modifier.isPublic(constructors[0].getModifiers()) && constructors[0].getParameterCount() == 0);
        for (Class<?> inside : loom.getDeclaredClasses()) {
            check.due(inside + " is static", Modifier.isStatic(inside.getModifiers()));
            check.due(inside + " is not to be seen", (inside.getModifiers()
                & (Modifier.PUBLIC | Modifier.PROTECTED)) == 0);
            for (Method method : inside.getDeclaredMethods()) {
                check.due(method + " has a name of its own", !publicNames.contains(method.getName()));
            }
            for (Field field : inside.getDeclaredFields()) {
                boolean ends = !Modifier.isStatic(field.getModifiers()) || Modifier.isFinal(field.getModifiers());
                check.due(field + " is final if it is static", ends);
            }
        }
        check.due("constants: " + Arrays.toString(loom.getFields()), loom.getFields().length == 1);
        check.end();
    }
}
