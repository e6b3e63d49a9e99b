import java.lang.reflect.Method;
import java.lang.reflect.Modifier;
import java.nio.file.Files;
import java.nio.file.Path;
import java.util.regex.Matcher;
import java.util.regex.Pattern;

/** The README's example answers as it says, and its table has every call; run from the project's folder. */
public final class ReadmeTest {
    private static final Due DUE = new Due("ReadmeTest");
    private static final Pattern TOLD = Pattern.compile("(?m)^x\\.(\\w+)\\(([^)]*)\\); +// (-?\\d+)");
    private static final Pattern TEXT = Pattern.compile("for \\(char letter : \"(\\w+)\"");

    public static void main(String[] args) throws Exception {
        String readme = Files.readString(Path.of("README.md"));
        example(readme);
        for (Method method : DustVote.class.getDeclaredMethods()) {
            if (Modifier.isPublic(method.getModifiers())) {
                Matcher row = Pattern.compile("(?m)^\\| `" + method.getName() + "\\(([^)]*)\\)` \\|").matcher(readme);
                DUE.is(method.getName() + " has a row", row.find() ? 1 : 0, 1);
                int names = row.reset().find() && !row.group(1).isEmpty() ? row.group(1).split(",").length : 0;
                DUE.is(method.getName() + " takes so many", names, method.getParameterCount());
            }
        }
        DUE.end();
    }

    private static void example(String readme) throws Exception {
        Matcher text = TEXT.matcher(readme);
        DUE.is("the example has a text", text.find() ? 1 : 0, 1);
        DustVote x = Due.written(text.group(1));
        Matcher told = TOLD.matcher(readme);
        int calls = 0;
        while (told.find()) {
            calls++;
            String[] given = told.group(2).isEmpty() ? new String[0] : told.group(2).split(", *");
            DUE.is(told.group(), answer(x, told.group(1), given), Long.parseLong(told.group(3)));
        }
        DUE.is("the example has calls", calls > 10 ? 1 : 0, 1);
    }

    private static long answer(DustVote x, String name, String[] given) throws Exception {
        for (Method method : DustVote.class.getDeclaredMethods()) {
            if (Modifier.isPublic(method.getModifiers()) && method.getName().equals(name)) {
                Object[] values = new Object[given.length];
                for (int i = 0; i < given.length; i++) {
                    values[i] = value(method.getParameterTypes()[i], given[i]);
                }
                return ((Number) method.invoke(x, values)).longValue();
            }
        }
        throw new IllegalStateException("no call " + name);
    }

    private static Object value(Class<?> type, String text) {
        if (type == boolean.class) {
            return Boolean.valueOf(text);
        }
        return type == long.class ? (Object) Long.valueOf(text) : (Object) Integer.valueOf(text);
    }
}
