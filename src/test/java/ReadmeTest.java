import java.io.IOException;
import java.lang.reflect.InvocationTargetException;
import java.lang.reflect.Method;
import java.nio.file.Files;
import java.nio.file.Path;
import java.util.regex.Matcher;
import java.util.regex.Pattern;

/**
 * The example of README.md: each line of it that ends with a comment says what the call answers, and
 * that must be so. It is run from the project's directory, as .ci/run does.
 */
public final class ReadmeTest {
    private static final Pattern SETUP = Pattern.compile("\"(B\\d+)\"");
    private static final Pattern CALL = Pattern.compile("x\\.(\\w+)\\(([-\\d, L]*)\\);\\s*// (-?\\d+)\\b.*");

    public static void main(String[] args) throws IOException, ReflectiveOperationException {
        String page = Files.readString(Path.of("README.md"));
        everyMethodIsNamed(page);
        example(page);
        Check.end();
    }

    private static void everyMethodIsNamed(String page) {
        for (Method method : BlockLayout.class.getDeclaredMethods()) {
            boolean isNamed = page.contains("`" + method.getName() + "(");
            Check.isTrue("README.md tells of " + method.getName(), isNamed);
        }
    }

    private static void example(String page) throws ReflectiveOperationException {
        Matcher setup = SETUP.matcher(page);
        Check.isTrue("README.md has a setup", setup.find());
        BlockLayout x = new BlockLayout();
        Check.type(x, setup.group(1));
        Matcher call = CALL.matcher(page);
        int calls = 0;
        while (call.find()) {
            int answer = answer(x, call.group(1), call.group(2));
            Check.due("README.md: " + call.group(1) + "(" + call.group(2) + ")", answer, Long.parseLong(call.group(3)));
            calls++;
        }
        Check.isTrue("README.md has calls with answers", calls > 5);
    }

    private static int answer(BlockLayout x, String name, String arguments)
            throws IllegalAccessException, InvocationTargetException {
        String[] texts = arguments.isEmpty() ? new String[0] : arguments.split(", ");
        for (Method method : BlockLayout.class.getDeclaredMethods()) {
            if (method.getName().equals(name)) {
                Object[] values = new Object[texts.length];
                for (int i = 0; i < texts.length; i++) {
                    long value = Long.parseLong(texts[i].replace("L", ""));
                    values[i] = method.getParameterTypes()[i] == long.class ? (Object) value : (Object) (int) value;
                }
                return (int) method.invoke(x, values);
            }
        }
        throw new IllegalStateException("README.md names " + name + ", which the class does not have");
    }
}
