import java.lang.reflect.InvocationTargetException;
import java.lang.reflect.Method;
import java.lang.reflect.Modifier;
import java.util.Arrays;
import java.util.List;

/** Each argument's least and greatest value, and those just outside and far outside of them. */
public final class LimitsTest {
    private static final String ILLEGAL = "throws.IllegalArgumentException";
    private static final String NO_CHILD = "throws.NoSuchElementException";
    private static final String OUTSIDE = "throws.IndexOutOfBoundsException";
    private static final Check check = new Check();
    private static final List<String> before = Shown.behind(Yards::some, x -> null);

    public static void main(String[] args) {
        children();
        yardsAndOrders();
        settings();
        lawsAndFilms();
        talks();
        trials();
        takenAtAnyNumber();
        check.end();
    }

    /** One argument of a call, from the least to the greatest it takes; the others can stand. */
    private static void limits(String exception, int least, int greatest, int at, String name, Object... arguments) {
        for (int v : new int[] {least, greatest}) {
            String call = call(name, arguments, at, v);
            check.due(call + " throws", false, () -> Check.answer(() -> made(name, arguments, at, v)).startsWith("throws."));
        }
        for (int v : new int[] {Integer.MIN_VALUE, least - 1, greatest + 1, Integer.MAX_VALUE}) {
            String call = call(name, arguments, at, v);
            check.due(call, exception, () -> made(name, arguments, at, v));
            check.due(call + " changes", "nothing",
                    () -> Shown.firstChange(before, Shown.behind(Yards::some, x -> made(x, name, arguments, at, v))));
        }
    }

    private static String call(String name, Object[] arguments, int at, int v) {
        Object[] row = arguments.clone();
        row[at] = v;
        return name + Arrays.toString(row);
    }

    private static Object made(String name, Object[] arguments, int at, int v) {
        return made(Yards.some(), name, arguments, at, v);
    }

    private static Object made(YardTalk x, String name, Object[] arguments, int at, int v) {
        Object[] row = arguments.clone();
        row[at] = v;
        for (Method m : YardTalk.class.getDeclaredMethods()) {
            if (Modifier.isPublic(m.getModifiers()) && m.getName().equals(name)) {
                try {
                    return m.invoke(x, row);
                } catch (InvocationTargetException e) {
                    throw (RuntimeException) e.getCause();
                } catch (IllegalAccessException e) {
                    return "no access";
                }
            }
        }
        return "no such call";
    }

    private static void children() {
        limits(NO_CHILD, 0, 5, 0, "leave", 0);
        limits(NO_CHILD, 0, 5, 0, "visit", 0, 0);
        limits(NO_CHILD, 0, 5, 0, "of", 0, 0);
        limits(ILLEGAL, 0, 6, 1, "of", 0, 0);
        limits(NO_CHILD, 0, 5, 0, "sign", 0, 0, 0);
        limits(ILLEGAL, 0, 7, 1, "sign", 0, 0, 0);
        limits(ILLEGAL, 0, 15, 2, "sign", 0, 0, 0);
        for (String name : List.of("order", "holds", "since", "taught", "root")) {
            limits(NO_CHILD, 0, 5, 0, name, 0, 0);
            limits(ILLEGAL, 0, 5, 1, name, 0, 0);
        }
        limits(NO_CHILD, 0, 5, 0, "back", 0, 0, 0);
        limits(ILLEGAL, 0, 5, 1, "back", 0, 0, 0);
        limits(NO_CHILD, 0, 5, 0, "plain", 0);
        limits(NO_CHILD, 0, 5, 0, "right", 0, 0, 0);
        limits(NO_CHILD, 0, 5, 0, "meets", 0, 2);
        limits(NO_CHILD, 0, 5, 1, "meets", 2, 0);
        limits(NO_CHILD, 0, 5, 0, "talk", 0, 2, 0, 0, 0);
        limits(NO_CHILD, 0, 5, 1, "talk", 2, 0, 0, 0, 0);
    }

    private static void yardsAndOrders() {
        limits(ILLEGAL, 0, 2, 0, "come", 0, 0, true);
        limits(ILLEGAL, 0, 20, 1, "come", 0, 0, false);
        limits(ILLEGAL, 0, 20, 1, "come", 2, 0, true);
        limits(ILLEGAL, 0, 2, 1, "visit", 0, 0);
        limits(ILLEGAL, 0, 2, 0, "held", 0, 0);
        limits(ILLEGAL, 0, 5, 1, "held", 0, 0);
        limits(ILLEGAL, 0, 5, 0, "first", 0, 0);
        limits(ILLEGAL, 0, 1, 1, "first", 0, 0);
        limits(ILLEGAL, 0, 2, 0, "uses", 0, 0);
        limits(ILLEGAL, 0, 15, 1, "uses", 0, 0);
        limits(ILLEGAL, 0, 2, 0, "seen", 0, 0);
        limits(ILLEGAL, 0, 15, 1, "seen", 0, 0);
        limits(ILLEGAL, 0, 2, 0, "unlike", 0, 0);
        limits(ILLEGAL, 0, 2, 1, "unlike", 0, 0);
        limits(ILLEGAL, 0, 2, 0, "word", 0, 0);
        limits(ILLEGAL, 0, 7, 1, "word", 0, 0);
        limits(ILLEGAL, 0, 2, 0, "blurred", 0, 0);
        limits(ILLEGAL, 0, 2, 0, "nearest", 0);
    }

    private static void settings() {
        limits(ILLEGAL, 0, 1, 0, "set", 0, 50);
        limits(ILLEGAL, 10, 10000, 1, "set", 0, 0);
        limits(ILLEGAL, 0, 100, 1, "set", 1, 0);
        // YEAR 3: 57 more can be; up to 60 it is the YEAR that would be too high.
        for (int v : new int[] {0, 57}) {
            check.due("years of " + v, v + 3, () -> Yards.some().years(v));
        }
        for (int v : new int[] {58, 60}) {
            check.due("years of " + v, "throws.IllegalStateException", () -> Yards.some().years(v));
        }
        for (int v : new int[] {-1, 61, Integer.MIN_VALUE, Integer.MAX_VALUE}) {
            check.due("years of " + v, ILLEGAL, () -> Yards.some().years(v));
            check.due("years of " + v + " changes", "nothing",
                    () -> Shown.firstChange(before, Shown.behind(Yards::some, x -> x.years(v))));
        }
    }

    private static void lawsAndFilms() {
        limits(ILLEGAL, 0, 20, 0, "law", 0);
        limits(OUTSIDE, -1, 1, 0, "force", 0);
        limits(OUTSIDE, 0, 1, 0, "gap", 0, 0);
        limits(ILLEGAL, 0, 11, 1, "gap", 0, 0);
        limits(ILLEGAL, 0, 4, 1, "gap", 1, 0);
        limits(OUTSIDE, 0, 1, 0, "fits", 0, 0);
        limits(OUTSIDE, -1, 1, 1, "fits", 0, 0);
    }

    private static void talks() {
        limits(ILLEGAL, 0, 3, 2, "talk", 0, 1, 0, 0, 0);
        limits(ILLEGAL, 0, 3, 3, "talk", 0, 1, 0, 0, 0);
        limits(ILLEGAL, 0, 3, 4, "talk", 0, 1, 0, 0, 0);
        limits(ILLEGAL, 0, 2, 0, "run", 0, 5);
        limits(ILLEGAL, 0, 200, 1, "run", 0, 0);
        limits(OUTSIDE, 0, 16, 0, "note", 0, 0);
        limits(ILLEGAL, 0, 16, 1, "note", 16, 0);
        limits(ILLEGAL, -1, 3, 1, "share", 0, 0, 0, true);
        limits(ILLEGAL, -1, 3, 2, "share", 0, 0, 0, false);
    }

    private static void trials() {
        limits(ILLEGAL, 0, 2, 0, "trial", 0, 5, 0, 0);
        limits(ILLEGAL, 0, 200, 1, "trial", 0, 0, 0, 0);
        limits(OUTSIDE, -1, 1, 2, "trial", 0, 5, 0, 0);
        limits(ILLEGAL, 0, 5, 3, "trial", 0, 5, 0, 0);
        limits(ILLEGAL, 0, 2, 0, "fewest", 0, 5, 50, 0);
        limits(ILLEGAL, 0, 200, 1, "fewest", 0, 0, 50, 0);
        limits(ILLEGAL, 1, 100, 2, "fewest", 0, 5, 0, 0);
        limits(ILLEGAL, 0, 5, 3, "fewest", 0, 5, 50, 0);
        for (String name : List.of("needed", "untaught")) {
            limits(ILLEGAL, 0, 2, 0, name, 0, 5, 0);
            limits(ILLEGAL, 0, 200, 1, name, 0, 0, 0);
            limits(ILLEGAL, 0, 5, 2, name, 0, 5, 0);
        }
        limits(ILLEGAL, 0, 2, 0, "odds", 0, 5, 0, 2);
        limits(ILLEGAL, 0, 200, 1, "odds", 0, 0, 0, 2);
        limits(ILLEGAL, 0, 5, 2, "odds", 0, 5, 0, 2);
        limits(ILLEGAL, 1, 20, 3, "odds", 0, 5, 0, 0);
    }

    /** These are no fault of the call, whatever the number. */
    private static void takenAtAnyNumber() {
        for (int v : new int[] {Integer.MIN_VALUE, -2, 6, 9999, Integer.MAX_VALUE}) {
            YardTalk x = Yards.some();
            check.due("19: a year of no talks", 0, () -> x.share(v, -1, -1, false));
            check.due("22: no such k", -1, () -> x.back(0, 0, v));
            check.due("39: no such k", -1, () -> x.blurred(1, v));
        }
        for (int v : new int[] {Integer.MIN_VALUE, -2, -1, 12, 13, Integer.MAX_VALUE}) {
            check.due("47: no such what", -1, () -> Yards.some().count(v));
        }
        YardTalk x = Yards.some();
        x.seeds(Integer.MIN_VALUE, Integer.MAX_VALUE);
        check.due("2: the least choice", Integer.MIN_VALUE, () -> x.count(11));
        check.due("2: the greatest chance", Integer.MAX_VALUE, () -> x.count(10));
        check.due("12: any bytes", 40, () -> x.feed(Integer.MIN_VALUE, Integer.MAX_VALUE, -1, 0, 1));
        int all = x.right(0, 0, 16);
        check.due("46: from the least to the greatest", all, () -> x.right(0, Integer.MIN_VALUE, Integer.MAX_VALUE));
        check.due("46: beyond the last", -1, () -> x.right(0, 17, Integer.MAX_VALUE));
        check.due("46: ahead of the first", -1, () -> x.right(0, Integer.MIN_VALUE, -1));
    }
}
