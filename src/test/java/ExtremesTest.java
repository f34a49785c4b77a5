import java.lang.reflect.InvocationTargetException;
import java.lang.reflect.Method;
import java.lang.reflect.Modifier;
import java.util.Arrays;
import java.util.Comparator;
import java.util.HashMap;
import java.util.Map;

/**
 * Every act with every mixture of numbers at and far beyond the edges, on objects that are new, in use, and full:
 * nothing is thrown, and an answer is an ERROR only if the act's promise names that ERROR.
 */
public final class ExtremesTest extends Checks {
    private static final int MIN = Integer.MIN_VALUE;
    private static final int MAX = Integer.MAX_VALUE;
    private static final int CALLS_AN_OBJECT = 350;

    // By how many arguments there are: the more, the fewer numbers are tried for each.
    private static final int[][] TRIED = {
        {},
        {MIN, MIN + 1, LOW - 7, LOW - 1, -256, -2, -1, 0, 1, 2, 3, 4, 6, 7, 8, 23, 24, 25, 29, 30, 31, 59, 60, 61, 72, 73,
            300, 301, 9999, 10000, 65536, MAX - 1, MAX},
        {MIN, MIN + 1, -2, -1, 0, 1, 2, 3, 4, 6, 7, 8, 9, 24, 30, 31, 32, 69, 70, 72, 73, 99, 100, 999, 1000, MAX - 1, MAX},
        {MIN, -1, 0, 1, 2, 3, 4, 6, 7, 8, 16, 24, 25, 30, 31, 32, 40, 41, 69, 70, 127, 128, 255, 256, MAX},
        {MIN, MIN + 1, -1, 0, 1, 2, 9, 10, 24, 999, 1000, 65536, MAX},
        {MIN, -1, 0, 1, 2, 3, 4, 24, MAX},
    };
    // k 1 BEYOND, 2 NONE, 3 STATE, 4 FULL, 5 KIND, 6 PARTED; acts that may answer any number are not here.
    private static final String[] ERRORS_BY_ACT = {
        "farm 14", "farmIs 1", "become 1", "as 15", "parch 1", "graze 1", "carrier 14", "carrierIs 1", "pool 1", "swap 1",
        "carry 13", "feed 14", "text 1", "untell 1", "law 1", "hours 13", "loose 13", "hour 1", "then 1", "first 12",
        "round 1", "fewest 12", "odds 13", "whose 12", "fits 12", "body 2", "sheet 13", "put 12", "move 125", "parches 12",
        "judge 12", "image", "restore 2", "tell 4", "check", "told 1",
    };
    private static final Map<String, String> errors = new HashMap<>();

    private static int state;
    private static int called;
    private static ThirstPay tried;

    public static void main(String[] args) throws IllegalAccessException {
        for (String by : ERRORS_BY_ACT) {
            String[] parts = by.split(" ");
            errors.put(parts[0], parts.length > 1 ? parts[1] : "");
        }
        Method[] acts = ThirstPay.class.getDeclaredMethods();
        // The machine gives them in any order; a run is to be the same each time.
        Arrays.sort(acts, Comparator.comparing(Method::getName));
        for (state = 0; state < 3; state++) {
            tried = made();
            for (Method act : acts) {
                if (Modifier.isPublic(act.getModifiers())) {
                    tryAll(act, 0, new Object[act.getParameterCount()]);
                }
            }
        }
        end("ExtremesTest");
    }

    private static ThirstPay made() {
        called = 0;
        ThirstPay x = new ThirstPay();
        int farms = state == 2 ? 7 : 3;
        for (int i = 0; i < farms && state > 0; i++) {
            x.farm(10 * i + i, 5 + i, 4 * i);
            x.parch(i, 14 * i);
        }
        for (int i = 0; i < 4 && state > 0; i++) {
            if (i < 2 || state == 2) {
                x.carrier(300 - 97 * i);
            }
        }
        if (state > 0) {
            feedWords(x, "g+d/9");
            x.text(0);
            feedWords(x, "p*(d+s)-!(h");
            sheet(x, 0, 8, 1, 2, 3);
            sheet(x, 1, 16, 1, 2);
            sheet(x, 2, 16, 5, 6, 7, 8, 9, 10, 11, 12, 13, 14);
            x.voice(2, 3, 5);
            x.pool(1, 500);
            x.image();
        }
        if (state == 2) {
            x.hour(9998);
            x.feed(0, 8);
            feed(x, "999999999999999999999999999999999999999999");
            for (int i = 0; i < 24; i++) {
                x.tell(i);
            }
            x.sheet(2, 16, 24);
            x.sheet(3, 32, 0);
        }
        return x;
    }

    private static void tryAll(Method act, int at, Object[] arguments) throws IllegalAccessException {
        if (at == arguments.length) {
            tryOne(act, arguments);
            return;
        }
        for (int v : TRIED[arguments.length]) {
            if (act.getParameterTypes()[at] == long.class) {
                arguments[at] = (long) v << 8;
            } else {
                arguments[at] = v;
            }
            tryAll(act, at + 1, arguments);
        }
    }

    private static void tryOne(Method act, Object[] arguments) throws IllegalAccessException {
        if (called++ >= CALLS_AN_OBJECT) {
            tried = made();
        }
        String call = act.getName() + Arrays.toString(arguments);
        try {
            int answer = (Integer) act.invoke(tried, arguments);
            String own = errors.get(act.getName());
            if (own != null && answer < LOW) {
                due(40, "an ERROR that is not the act's own: " + call, own.indexOf('0' + LOW - answer) < 0 ? answer : 0, 0);
            }
        } catch (InvocationTargetException e) {
            due(40, call + " on " + state + " threw " + e.getCause(), 1, 0);
        }
    }
}
