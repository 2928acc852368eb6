import java.lang.reflect.Constructor;
import java.lang.reflect.Field;
import java.lang.reflect.Method;
import java.lang.reflect.Modifier;
import java.util.ArrayList;
import java.util.Arrays;
import java.util.List;
import java.util.TreeSet;

/** The public face: just what the document lists, and all else private. */
public final class FaceTest {
    private static final String A = " IllegalArgumentException";
    private static final String S = " IllegalStateException";
    private static final String ALL = A + S + " IndexOutOfBoundsException UnsupportedOperationException";
    private static final List<String> FACE = List.of(
            "set/2" + A, "move/2" + A, "alloc/2" + A + S, "free/1" + ALL, "add/2" + A,
            "load/3" + ALL, "store/3" + ALL, "copy/3" + ALL, "narrow/3" + ALL,
            "enter/0" + S, "local/2" + A + S, "point/2" + A + S + " IndexOutOfBoundsException", "leave/0" + S,
            "same/2" + A, "register/2" + A, "count/1" + A);

    public static void main(String[] args) {
        classIsPublicAndFinal();
        methodsAreTheDocuments();
        nothingElseIsVisible();
        Check.end();
    }

    private static void classIsPublicAndFinal() {
        int modifiers = SafeMemory.class.getModifiers();
        if (!Modifier.isPublic(modifiers) || !Modifier.isFinal(modifiers)) {
            Check.fail("the class is not public and final");
        }
        Constructor<?>[] constructors = SafeMemory.class.getDeclaredConstructors();
        if (constructors.length != 1 || !Modifier.isPublic(constructors[0].getModifiers())
                || constructors[0].getParameterCount() != 0) {
            Check.fail("the constructor is not the document's");
        }
    }

    private static void methodsAreTheDocuments() {
        List<String> found = new ArrayList<>();
        for (Method method : SafeMemory.class.getDeclaredMethods()) {
            if (!Modifier.isPrivate(method.getModifiers())) {
                found.add(describe(method));
            }
        }
        TreeSet<String> due = new TreeSet<>(FACE);
        if (found.size() != due.size() || !due.equals(new TreeSet<>(found))) {
            Check.fail("the methods are " + new TreeSet<>(found) + ", due are " + due);
        }
    }

    private static String describe(Method method) {
        boolean plain = Modifier.isPublic(method.getModifiers()) && !Modifier.isStatic(method.getModifiers())
                && method.getReturnType() == int.class
                && Arrays.stream(method.getParameterTypes()).allMatch(type -> type == int.class);
        TreeSet<String> thrown = new TreeSet<>();
        for (Class<?> kind : method.getExceptionTypes()) {
            thrown.add(kind.getSimpleName());
        }
        StringBuilder text = new StringBuilder(plain ? "" : "odd ");
        text.append(method.getName()).append('/').append(method.getParameterCount());
        for (String kind : thrown) {
            text.append(' ').append(kind);
        }
        return text.toString();
    }

    private static void nothingElseIsVisible() {
        for (Field field : SafeMemory.class.getDeclaredFields()) {
            if (!Modifier.isPrivate(field.getModifiers())) {
                Check.fail("the field " + field.getName() + " is not private");
            }
        }
        TreeSet<String> names = new TreeSet<>();
        for (String method : FACE) {
            names.add(method.substring(0, method.indexOf('/')));
        }
        for (Method method : SafeMemory.class.getDeclaredMethods()) {
            if (Modifier.isPrivate(method.getModifiers()) && names.contains(method.getName())) {
                Check.fail("a private method bears the public name " + method.getName());
            }
        }
    }
}
