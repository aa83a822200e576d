import java.lang.reflect.Constructor;
import java.lang.reflect.Field;
import java.lang.reflect.Method;
import java.lang.reflect.Modifier;
import java.util.ArrayList;
import java.util.Arrays;
import java.util.Collections;
import java.util.List;

/** The public face: just the constructor and the methods of the document, with their exceptions. */
public final class FaceTest {
    private static final String[] DUE = {
        "int bed(int) IllegalArgumentException IllegalStateException",
        "int sailor(int, int, int, int) IndexOutOfBoundsException IllegalArgumentException IllegalStateException",
        "int keep(int, int) IndexOutOfBoundsException",
        "int setBell(int) IllegalArgumentException",
        "int setPawn(int) IllegalArgumentException",
        "int give(int, int) IndexOutOfBoundsException IllegalArgumentException",
        "int pawn(int) IndexOutOfBoundsException IllegalStateException",
        "int redeem(int) IndexOutOfBoundsException IllegalStateException",
        "int call(int) IndexOutOfBoundsException IllegalStateException",
        "int shift(int, int) IndexOutOfBoundsException IllegalStateException",
        "int pass(int) IllegalArgumentException",
        "int told(int, int) IndexOutOfBoundsException",
        "int about(int, int) IndexOutOfBoundsException",
        "int count(int) IndexOutOfBoundsException",
        "int would(int, int) IndexOutOfBoundsException IllegalArgumentException",
        "int until(int) IndexOutOfBoundsException",
        "int quiet()",
        "int advise(int) IndexOutOfBoundsException IllegalStateException",
        "double mean()",
        "long digest()",
    };

    public static void main(String[] args) {
        Check.same("public and final", HotBeds.class.getModifiers(), Modifier.PUBLIC | Modifier.FINAL);
        methodsAreThoseOfTheDocument();
        nothingElseIsSeen();
        Check.end();
    }

    private static void methodsAreThoseOfTheDocument() {
        List<String> got = new ArrayList<>();
        List<String> names = new ArrayList<>();
        for (Method method : HotBeds.class.getDeclaredMethods()) {
            if (!Modifier.isPrivate(method.getModifiers())) {
                Check.same(method.getName() + "'s modifiers", method.getModifiers(), Modifier.PUBLIC);
                got.add(signature(method));
                names.add(method.getName());
            }
        }
        List<String> due = new ArrayList<>(Arrays.asList(DUE));
        Collections.sort(due);
        Collections.sort(got);
        if (!got.equals(due)) {
            System.out.println("the methods are " + got + ", due is " + due);
        }
        Check.same("the methods are those of the document", got.equals(due) ? 1 : 0, 1);
        for (Method method : HotBeds.class.getDeclaredMethods()) {
            if (Modifier.isPrivate(method.getModifiers())) {
                Check.same("a private " + method.getName(), names.contains(method.getName()) ? 1 : 0, 0);
            }
        }
    }

    private static String signature(Method method) {
        StringBuilder text = new StringBuilder();
        text.append(method.getReturnType()).append(' ').append(method.getName()).append('(');
        String gap = "";
        for (Class<?> parameter : method.getParameterTypes()) {
            text.append(gap).append(parameter);
            gap = ", ";
        }
        text.append(')');
        for (Class<?> exception : method.getExceptionTypes()) {
            text.append(' ').append(exception.getSimpleName());
        }
        return text.toString();
    }

    private static void nothingElseIsSeen() {
        Constructor<?>[] constructors = HotBeds.class.getDeclaredConstructors();
        Check.same("constructors", constructors.length, 1);
        Check.same("the constructor is public", constructors[0].getModifiers(), Modifier.PUBLIC);
        Check.same("the constructor's parameters", constructors[0].getParameterCount(), 0);
        for (Field field : HotBeds.class.getDeclaredFields()) {
            Check.same(field.getName() + " is private", Modifier.isPrivate(field.getModifiers()) ? 1 : 0, 1);
        }
        for (Class<?> inside : HotBeds.class.getDeclaredClasses()) {
            Check.same(inside.getName() + " is static", Modifier.isStatic(inside.getModifiers()) ? 1 : 0, 1);
            Check.same(inside.getName() + " is public", Modifier.isPublic(inside.getModifiers()) ? 1 : 0, 0);
        }
    }
}
