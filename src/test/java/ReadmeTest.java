import java.io.IOException;
import java.lang.reflect.Method;
import java.nio.file.Files;
import java.nio.file.Path;
import java.util.regex.Matcher;
import java.util.regex.Pattern;

/** The calls that README.md shows, one behind another on one object, answer what stands behind them there. */
public final class ReadmeTest {
    private static final Pattern SHOWN = Pattern.compile("(?m)^rows\\.(\\w+)\\((.*?)\\); +// (-?\\d+)");
    private static final int LEAST_SHOWN = 25;
    private static final Check check = new Check();

    public static void main(String[] args) throws IOException, ReflectiveOperationException {
        KindRows rows = new KindRows();
        String text = Files.readString(Path.of("README.md"));
        Matcher shown = SHOWN.matcher(text);
        int calls = 0;
        while (shown.find()) {
            calls++;
            Number got = call(rows, shown.group(1), shown.group(2).split(", "));
            check.due("README.md: " + shown.group(), got.longValue(), Long.parseLong(shown.group(3)));
        }
        check.holds(calls + " calls are shown", calls >= LEAST_SHOWN);
        check.due("lines that are calls", calls, text.lines().filter(line -> line.startsWith("rows.")).count());
        check.end("ReadmeTest");
    }

    private static Number call(KindRows rows, String name, String[] told) throws ReflectiveOperationException {
        for (Method method : KindRows.class.getDeclaredMethods()) {
            if (method.getName().equals(name) && method.getParameterCount() == told.length) {
                Object[] args = new Object[told.length];
                for (int i = 0; i < told.length; i++) {
                    args[i] = argument(told[i], method.getParameterTypes()[i]);
                }
                return (Number) method.invoke(rows, args);
            }
        }
        throw new NoSuchMethodException(name);
    }

    private static Object argument(String told, Class<?> type) {
        if (type == boolean.class) {
            return Boolean.valueOf(told);
        }
        if (told.equals("KindRows.NONE")) {
            return KindRows.NONE;
        }
        if (type == long.class) {
            return Long.valueOf(told);
        }
        return Integer.valueOf(told);
    }
}
