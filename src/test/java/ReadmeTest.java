import java.io.IOException;
import java.lang.reflect.InvocationTargetException;
import java.lang.reflect.Method;
import java.nio.file.Files;
import java.nio.file.Path;
import java.util.regex.Matcher;
import java.util.regex.Pattern;

/** The example of README.md: every call answers what the remark behind it says. */
public final class ReadmeTest {
    private static final Pattern LINE = Pattern.compile(
            "memory\\.(\\w+)\\(([-\\d, ]*)\\); +//.*?\\b(?:answers (-?\\d+)|throws (\\w+)).*");

    public static void main(String[] args) throws IOException {
        SafeMemory memory = new SafeMemory();
        int calls = 0;
        for (String line : Files.readAllLines(Path.of("README.md"))) {
            Matcher call = LINE.matcher(line);
            if (call.matches()) {
                calls++;
                String due = call.group(3) != null ? call.group(3) : call.group(4);
                String got = answer(memory, call.group(1), call.group(2));
                if (!got.equals(due)) {
                    Check.fail("'" + line + "' answered " + got);
                }
            } else if (line.startsWith("memory.")) {
                Check.fail("'" + line + "' says no answer");
            }
        }
        if (calls == 0) {
            Check.fail("README.md has no example");
        }
        Check.end();
    }

    private static String answer(SafeMemory memory, String name, String arguments) {
        Object[] values = Pattern.compile("-?\\d+").matcher(arguments).results()
                .map(found -> (Object) Integer.valueOf(found.group())).toArray();
        for (Method method : SafeMemory.class.getDeclaredMethods()) {
            if (method.getName().equals(name) && method.getParameterCount() == values.length) {
                return answer(memory, method, values);
            }
        }
        return "that there is no such call";
    }

    private static String answer(SafeMemory memory, Method method, Object[] values) {
        try {
            return method.invoke(memory, values).toString();
        } catch (InvocationTargetException thrown) {
            return thrown.getCause().getClass().getSimpleName();
        } catch (IllegalAccessException thrown) {
            return "that it may not be called";
        }
    }
}
