import java.io.IOException;
import java.lang.reflect.Method;
import java.nio.file.Files;
import java.nio.file.Path;
import java.util.Set;
import java.util.TreeSet;
import java.util.regex.Matcher;
import java.util.regex.Pattern;

/** The example in README.md: each call in it answers what is told behind it, and no call of the face is missing. */
public final class ReadmeTest {
    private static final Pattern TEXT = Pattern.compile("\"(U[^\"]*)\"\\.toCharArray\\(\\)");
    private static final Pattern CALL = Pattern.compile("(?m)^wash\\.(\\w+)\\((.*?)\\); +// (-?\\d+)\\b");

    public static void main(String[] args) throws Exception {
        String readme = Files.readString(Path.of("README.md"));
        FlagWash wash = new FlagWash();
        Check.write(wash, textOf(readme));
        Set<String> shown = new TreeSet<>(Set.of("write"));
        Matcher call = CALL.matcher(readme);
        while (call.find()) {
            shown.add(call.group(1));
            Check.due(call.group(), answer(wash, call.group(1), call.group(2)), Long.parseLong(call.group(3)));
        }
        for (Method method : FlagWash.class.getMethods()) {
            if (method.getDeclaringClass() == FlagWash.class) {
                Check.dueTrue(method.getName() + " is shown", shown.contains(method.getName()));
            }
        }
        Check.end();
    }

    private static String textOf(String readme) throws IOException {
        Matcher text = TEXT.matcher(readme);
        if (!text.find()) {
            throw new IOException("README.md tells no laundry's text");
        }
        return text.group(1);
    }

    private static long answer(FlagWash wash, String name, String told) throws ReflectiveOperationException {
        String[] words = told.isEmpty() ? new String[0] : told.split(", ");
        for (Method method : FlagWash.class.getMethods()) {
            if (method.getName().equals(name) && method.getParameterCount() == words.length) {
                return ((Number) method.invoke(wash, numbers(method, words))).longValue();
            }
        }
        throw new NoSuchMethodException(name + "(" + told + ")");
    }

    private static Object[] numbers(Method method, String[] words) {
        Object[] numbers = new Object[words.length];
        for (int i = 0; i < words.length; i++) {
            Class<?> type = method.getParameterTypes()[i];
            if (type == boolean.class) {
                numbers[i] = Boolean.valueOf(words[i]);
            } else if (type == long.class) {
                numbers[i] = Long.valueOf(words[i]);
            } else {
                numbers[i] = Integer.valueOf(words[i]);
            }
        }
        return numbers;
    }
}
