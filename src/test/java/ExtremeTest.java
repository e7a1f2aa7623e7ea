import java.lang.reflect.InvocationTargetException;
import java.lang.reflect.Method;
import java.lang.reflect.Modifier;
import java.util.Arrays;

/**
 * Promises 2 to 35: each call with all combinations of arguments at the edges and far beyond them, on objects that
 * have nothing, something of everything, and as much as there may be. None throws; all answer as the model does.
 */
public final class ExtremeTest {
    private static final Integer[] INTS = {Integer.MIN_VALUE, Integer.MIN_VALUE + 1, -10, -3, -2, -1, 0, 1, 2, 3, 4, 5, 6, 7,
        8, 11, 12, 13, 17, 18, 39, 40, 59, 60, 61, 9999, 10000, Integer.MAX_VALUE - 1, Integer.MAX_VALUE};
    /** For family(), which has four arguments. */
    private static final Integer[] KINDS = {Integer.MIN_VALUE, -33, -2, -1, 0, 1, 2, 5, 6, 7, 31, 32, 33, Integer.MAX_VALUE};
    private static final Long[] LONGS = {Long.MIN_VALUE, Long.MIN_VALUE + 1, -1L << 32, -2L, -1L, 0L, 1L, 2L, 1L << 32,
        0x7ff0000000000000L, 0x7ff0000000000001L, 0x7ff8000000000000L, 0xfff0000000000000L, 0xfff8000000000000L,
        Long.MAX_VALUE - 1, Long.MAX_VALUE};
    private static final Boolean[] BOOLEANS = {false, true};
    /** Each is followed by three for the cause: with those that fill an object there are fewer than 512. */
    private static final int CALLS = 50;
    /** Above it an object that had nothing or something is more and more like a full one. */
    private static final int MOST_FIGURES = 20;
    private static final int NOTHING = 0, SOMETHING = 1, FULL = 2;
    private static final Check check = new Check();

    private final int state;
    private KindRows x;
    private Model y;
    private int calls = 0;

    private ExtremeTest(int state) {
        this.state = state;
    }

    public static void main(String[] args) throws ReflectiveOperationException {
        int tried = 0;
        for (int state = NOTHING; state <= FULL; state++) {
            for (Method method : KindRows.class.getDeclaredMethods()) {
                if (Modifier.isPublic(method.getModifiers())) {
                    tried++;
                    new ExtremeTest(state).all(method);
                }
            }
        }
        check.due("calls of the face in three states", tried, 3 * 34);
        check.end("ExtremeTest");
    }

    private void all(Method method) throws ReflectiveOperationException {
        Method asked = Model.class.getDeclaredMethod(method.getName(), method.getParameterTypes());
        Class<?>[] types = method.getParameterTypes();
        Object[][] choices = new Object[types.length][];
        int combinations = 1;
        for (int i = 0; i < types.length; i++) {
            choices[i] = choicesOf(types[i], types.length);
            combinations *= choices[i].length;
        }
        for (int c = 0; c < combinations; c++) {
            Object[] args = new Object[types.length];
            int left = c;
            for (int i = 0; i < types.length; i++) {
                args[i] = choices[i][left % choices[i].length];
                left /= choices[i].length;
            }
            one(method, asked, args);
        }
    }

    private static Object[] choicesOf(Class<?> type, int arguments) {
        if (type == boolean.class) {
            return BOOLEANS;
        }
        if (type == long.class) {
            return LONGS;
        }
        return arguments > 3 ? KINDS : INTS;
    }

    private void one(Method method, Method asked, Object[] args) throws ReflectiveOperationException {
        renew();
        String call = "state " + state + ": " + method.getName() + Arrays.toString(args);
        try {
            Number got = (Number) method.invoke(x, args);
            check.due(call, got.longValue(), ((Number) asked.invoke(y, args)).longValue());
        } catch (InvocationTargetException e) {
            check.holds(call + " threw " + e.getCause(), false);
        }
        for (int what = 0; what <= 2; what++) {
            check.due("cause(" + what + ") after " + call, x.cause(what), y.cause(what));
        }
    }

    private boolean isUsedUp() {
        return y == null || calls >= CALLS || (state != FULL && y.count(0) > MOST_FIGURES);
    }

    private void renew() {
        calls++;
        if (!isUsedUp()) {
            return;
        }
        calls = 1;
        x = new KindRows();
        y = new Model();
        if (state == SOMETHING) {
            fillSome();
        }
        if (state == FULL) {
            fill();
        }
    }

    private void fillSome() {
        due("point", x.point(1, -1), y.point(1, -1));
        due("span", x.span(1, 5), y.span(1, 5));
        due("wide", x.wide(0, 6, 2), y.wide(0, 6, 2));
        due("share", x.share(7, 2), y.share(7, 2));
        due("pair", x.pair(1, 2), y.pair(1, 2));
        for (int i = 0; i < 3; i++) {
            due("lay", x.lay(5 - i), y.lay(5 - i));
            due("family", x.family(i, -1, 5, -1), y.family(i, -1, 5, -1));
        }
        due("row", x.row(4, 1), y.row(4, 1));
        due("shelf", x.shelf(false, 12), y.shelf(false, 12));
        due("shelf", x.shelf(true, 1), y.shelf(true, 1));
        due("set", x.set(6, 11, 1), y.set(6, 11, 1));
        for (int i = 0; i < 9; i++) {
            due("constant", x.constant(i % 4, i / 2), y.constant(i % 4, i / 2));
            due("put", x.put(i / 2, i), y.put(i / 2, i));
        }
        due("drop", x.drop(5), y.drop(5));
        due("span", x.span(1, 0), y.span(1, 0));
    }

    private void fill() {
        for (int i = 0; i < 60; i++) {
            if (i % 3 == 0) {
                due("shelf", x.shelf(i % 2 == 0, i % 13), y.shelf(i % 2 == 0, i % 13));
            } else {
                due("wide", x.wide(0, i, i % 3), y.wide(0, i, i % 3));
            }
            due("constant", x.constant(i % 4, i), y.constant(i % 4, i));
        }
        while (y.count(0) < 60) {
            due("wide", x.wide(-1, 0, 1), y.wide(-1, 0, 1));
        }
        for (int i = 0; i < 40; i++) {
            due("put", x.put(i, -i), y.put(i, -i));
        }
        for (int i = 0; i < 12; i++) {
            due("lay", x.lay(i), y.lay(i));
        }
        for (int i = 0; i < 6; i++) {
            due("family", x.family(2, i == 2 ? -1 : i, -1, 6), y.family(2, i == 2 ? -1 : i, -1, 6));
        }
        due("drop", x.drop(7), y.drop(7));
        due("named", x.named(0, 9999), y.named(0, 9999));
    }

    private void due(String call, int got, int want) {
        check.due("state " + state + ", filling: " + call, got, want);
    }
}
