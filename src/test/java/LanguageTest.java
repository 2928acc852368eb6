import java.io.IOException;
import java.lang.reflect.Field;
import java.lang.reflect.Method;
import java.lang.reflect.Modifier;
import java.nio.file.Files;
import java.nio.file.Path;
import java.util.ArrayList;
import java.util.List;
import java.util.Set;
import java.util.regex.Matcher;
import java.util.regex.Pattern;

/** Those rules of LANGUAGE.md that the class itself or the words of its file can tell. */
public final class LanguageTest {
    private static final Path FILE = Path.of("src/main/java/SafeMemory.java");
    private static final Set<String> LIBRARY = Set.of("java.util.ArrayList", "java.util.List", "java.util.Arrays",
            "java.util.Iterator", "java.util.NoSuchElementException");
    private static final Set<String> THROWN = Set.of("IllegalStateException", "IllegalArgumentException",
            "IndexOutOfBoundsException", "UnsupportedOperationException");
    private static final Set<Class<?>> CONSTANTS = Set.of(int.class, long.class, boolean.class, char.class,
            String.class, int[].class, long[].class, char[].class, byte[].class);

    public static void main(String[] args) throws IOException {
        String code = withoutRemarksAndTexts(Files.readString(FILE));
        List<Class<?>> classes = allClasses(SafeMemory.class);
        classesInsideAreStatic(classes);
        importsAreTheLibrarys(code);
        throwsAreTheDocuments(code);
        wordsRuledOut(code);
        staticFieldsAreConstants(classes);
        sizes(classes);
        Check.end();
    }

    private static String withoutRemarksAndTexts(String code) {
        return code.replaceAll("(?s)/\\*.*?\\*/|//[^\n]*", "").replaceAll("\"[^\"\n]*\"", "\"\"");
    }

    private static List<Class<?>> allClasses(Class<?> outer) {
        List<Class<?>> found = new ArrayList<>(List.of(outer));
        for (Class<?> inner : outer.getDeclaredClasses()) {
            found.addAll(allClasses(inner));
        }
        return found;
    }

    /** Rule 1: "the classes inside it, which are private or package-visible and static." */
    private static void classesInsideAreStatic(List<Class<?>> classes) {
        for (Class<?> inner : classes.subList(1, classes.size())) {
            int modifiers = inner.getModifiers();
            if (!Modifier.isStatic(modifiers) || Modifier.isPublic(modifiers) || Modifier.isProtected(modifiers)) {
                Check.fail("rule 1: the class " + inner.getSimpleName());
            }
        }
    }

    /** Rule 4: "The library: only what stands here.", and the file is "without a package line". */
    private static void importsAreTheLibrarys(String code) {
        if (code.contains("package ")) {
            Check.fail("the file has a package line");
        }
        Matcher imported = Pattern.compile("\\bimport\\s+([^;]*);").matcher(code);
        while (imported.find()) {
            if (!LIBRARY.contains(imported.group(1))) {
                Check.fail("rule 4: import of " + imported.group(1));
            }
        }
    }

    /** Rule 6: "A call of the face throws exactly what and where the document says": of its four kinds, with written texts. */
    private static void throwsAreTheDocuments(String code) {
        Matcher thrown = Pattern.compile("\\bthrow\\b\\s*([^;]*);").matcher(code);
        while (thrown.find()) {
            Matcher made = Pattern.compile("new (\\w+)\\((\"\")?\\)").matcher(thrown.group(1));
            if (!made.matches() || !THROWN.contains(made.group(1))) {
                Check.fail("rule 6: throw " + thrown.group(1));
            }
        }
    }

    /** Rules 2, 6, 13: lambdas, method references, and the words that are ruled out. */
    private static void wordsRuledOut(String code) {
        Matcher found = Pattern.compile("->|::|\\b(finally|synchronized|assert|volatile|native|Thread|Random|Exact"
                + "|getMessage|hashCode|nanoTime|currentTimeMillis|Runtime|Object|Class)\\b").matcher(code);
        while (found.find()) {
            Check.fail("ruled out: " + found.group());
        }
    }

    /** Rule 5: "Static fields are final: constants of int, long, boolean, char or String", or rows of numbers. */
    private static void staticFieldsAreConstants(List<Class<?>> classes) {
        for (Class<?> each : classes) {
            for (Field field : each.getDeclaredFields()) {
                boolean constant = Modifier.isFinal(field.getModifiers()) && CONSTANTS.contains(field.getType());
                if (Modifier.isStatic(field.getModifiers()) && !constant) {
                    Check.fail("rule 5: the static field " + field.getName());
                }
            }
        }
    }

    /** Rule 11: "A method takes at most seven parameters.", some twelve classes, some twenty fields beside constants. */
    private static void sizes(List<Class<?>> classes) {
        if (classes.size() > 12) {
            Check.fail("rule 11: " + classes.size() + " classes");
        }
        for (Class<?> each : classes) {
            int fields = 0;
            for (Field field : each.getDeclaredFields()) {
                fields += Modifier.isStatic(field.getModifiers()) ? 0 : 1;
            }
            if (fields > 20) {
                Check.fail("rule 11: " + fields + " fields of " + each.getSimpleName());
            }
            for (Method method : each.getDeclaredMethods()) {
                if (method.getParameterCount() > 7) {
                    Check.fail("rule 11: parameters of " + method.getName());
                }
            }
        }
    }
}
