import java.lang.reflect.InvocationTargetException;
import java.lang.reflect.Method;
import java.util.Arrays;
import java.util.Comparator;
import java.util.HashMap;
import java.util.LinkedHashMap;
import java.util.Map;
import java.util.NoSuchElementException;
import java.util.Random;

/**
 * Calls of all kinds with arguments, states and tapes by chance (always the same ones): nothing is thrown but what the
 * document says, and a call changes nothing but what the document says (what it refuses changes nothing).
 */
public final class AnyCallTest {
    private static final int[] ODD = {Integer.MIN_VALUE, Integer.MIN_VALUE + 1, -1001, -1000, -256, -100, -3, -2, -1,
        0, 1, 2, 3, 4, 5, 6, 7, 8, 9, 20, 29, 30, 31, 59, 60, 61, 62, 255, 256, 399, 400, 401, 940, 941, 65536,
        1 << 30, Integer.MAX_VALUE - 1, Integer.MAX_VALUE};

    private static final String[] TOKENS = {"idea", "room", "parcel", "person", "sits", "has", "quarrel", "leak",
        "guess", "joins", "stands", "wishes", "guesses", "open", "carry", "day", "or", "and", "not", "opened",
        "nothing", "watched", "is", "in", "size", "bulge", "turned", "number", ";", ";", ";", "<", "=", ">", "(", ")",
        "a", "b", "c", "r", "s", "k", "l", "m", "p", "o", "t", "0", "1", "9", "60", "99", "999", "1000", "a1", ".", "A"};

    /** What each call may change, if it is not refused; what is not here may change nothing. */
    private static final Map<String, String> MAY_CHANGE = new HashMap<>();

    static {
        MAY_CHANGE.put("feed", "tape");
        MAY_CHANGE.put("end", "tape");
        MAY_CHANGE.put("post", "tape fault world said");
        for (String act : new String[] {"sit", "stand", "wish", "guess", "open", "carry", "days", "drawn", "undo", "restore"}) {
            MAY_CHANGE.put(act, "world said");
        }
        MAY_CHANGE.put("sitters", "sitting");
        MAY_CHANGE.put("sat", "tape surely");
        MAY_CHANGE.put("rooms", "roomOf");
        MAY_CHANGE.put("rest", "rested");
        MAY_CHANGE.put("tag", "tag");
        MAY_CHANGE.put("book", "tape fault told world said");
        MAY_CHANGE.put("sentence", "tape fault said");
    }

    private final Random chance;
    private final WonderParcels x = new WonderParcels();
    private final Method[] methods;

    private AnyCallTest(int run) {
        chance = new Random(run * 31L + 5);
        methods = Arrays.stream(WonderParcels.class.getMethods())
                .filter(m -> m.getDeclaringClass() == WonderParcels.class).toArray(Method[]::new);
        // In what order a class tells its methods is free; the runs are to be the same ones always.
        Arrays.sort(methods, Comparator.comparing(Method::getName));
    }

    public static void main(String[] args) throws Exception {
        for (int run = 0; run < 120 && Check.wrongSoFar() < 5; run++) {
            new AnyCallTest(run).go(run);
        }
        Check.end("AnyCallTest");
    }

    private void go(int run) throws Exception {
        if (run % 4 == 0) {
            Check.post(x, TextEdgeTest.FULL);
        } else if (run % 4 != 3) {
            Check.post(x, StateTest.POST);
        }
        Map<String, String> before = seen();
        for (int k = 0; k < 250; k++) {
            if (chance.nextInt(4) == 0) {
                anyTape();
                before = seen();
            }
            Method method = methods[chance.nextInt(methods.length)];
            Object[] given = given(method);
            String call = "run " + run + ": " + method.getName() + Arrays.toString(given);
            Object answer = answer(method, given, call);
            Map<String, String> after = seen();
            compare(call, mayChange(method.getName(), given, answer), before, after);
            before = after;
        }
    }

    private Object[] given(Method method) {
        Object[] given = new Object[method.getParameterCount()];
        for (int k = 0; k < given.length; k++) {
            int kind = chance.nextInt(6);
            given[k] = kind == 0 ? ODD[chance.nextInt(ODD.length)] : kind == 1 ? chance.nextInt(9) : chance.nextInt(3);
        }
        return given;
    }

    /** null: the exception that the document names. */
    private Object answer(Method method, Object[] given, String call) throws IllegalAccessException {
        try {
            Object answer = method.invoke(x, given);
            Check.is(call + " answers", answer != null, true);
            return answer;
        } catch (InvocationTargetException e) {
            boolean named = method.getName().equals("parcel") || method.getName().equals("person");
            boolean due = named && e.getCause().getClass() == NoSuchElementException.class;
            Check.is(call + " throws " + e.getCause(), due, true);
            return null;
        }
    }

    private static String mayChange(String name, Object[] given, Object answer) {
        String may = MAY_CHANGE.getOrDefault(name, "");
        if (answer == null || answer.equals(false)) {
            return "";
        }
        if (answer.equals(true)) {
            return may;
        }
        int n = (Integer) answer;
        switch (name) {
            case "sit": case "stand": case "wish": case "open": case "carry":
                return n == 0 ? may : "";
            case "guess": case "undo": case "feed": case "tag": case "sitters":
                return n >= 0 ? may : "";
            case "days": case "drawn":
                return n > 0 ? may : "";
            case "sat":
                return n > 0 ? may : "tape";
            case "post": case "sentence":
                return n >= 0 ? may : "tape fault";
            case "book":
                if (n == -1000) {
                    return "";
                }
                return n < -1 ? "tape fault" : given[0].equals(0) ? "tape fault told" : may;
            default:
                return may;
        }
    }

    private static void compare(String call, String may, Map<String, String> before, Map<String, String> after) {
        for (String part : before.keySet()) {
            if (!Arrays.asList(may.split(" ")).contains(part)) {
                Check.is(call + " leaves " + part, after.get(part), before.get(part));
            }
        }
    }

    /** A text of tokens by chance, bytes by chance, four bytes for sat(), or a text that has no fault. */
    private void anyTape() {
        int kind = chance.nextInt(6);
        if (kind == 0) {
            byte[] bytes = new byte[chance.nextInt(941)];
            chance.nextBytes(bytes);
            Check.tape(x, bytes);
        } else if (kind == 1) {
            Check.tape(x, new byte[] {(byte) chance.nextInt(7), (byte) chance.nextInt(32),
                (byte) (chance.nextInt(3) == 0 ? 255 : chance.nextInt(7)), (byte) chance.nextInt(3)});
        } else if (kind == 2) {
            Check.tape(x, chance.nextBoolean() ? TextEdgeTest.FULL : StateTest.POST);
        } else if (kind == 3) {
            Check.tape(x, chance.nextBoolean() ? "day 60;day 60;" : "not(opened or watched)and number<4");
        } else {
            StringBuilder text = new StringBuilder();
            int tokens = chance.nextInt(kind == 4 ? 8 : 220);
            for (int k = 0; k < tokens; k++) {
                text.append(TOKENS[chance.nextInt(TOKENS.length)]).append(chance.nextInt(5) == 0 ? '\n' : ' ');
            }
            text.setLength(Math.min(940, text.length()));
            Check.tape(x, text.toString());
        }
    }

    /** All that asks tell, part by part. */
    private Map<String, String> seen() {
        Map<String, String> all = new LinkedHashMap<>();
        all.put("tape", "" + x.count(6));
        all.put("fault", "" + x.fault());
        all.put("world", world());
        all.put("said", row(-1, 6, x::said));
        all.put("sitting", "" + x.sitting());
        all.put("surely", x.surely() + " " + x.ask());
        all.put("roomOf", row(0, 6, x::roomOf));
        all.put("rested", row(0, 8, x::rested));
        all.put("tag", row(0, 27, x::byteAt));
        all.put("told", row(0, 4, x::told));
        return all;
    }

    private String world() {
        StringBuilder text = new StringBuilder();
        text.append(row(0, 7, x::now)).append(row(0, 6, x::count)).append(row(0, 6, x::need)).append(row(0, 6, x::quarrels));
        for (int k = 0; k < 8; k++) {
            int n = k;
            text.append(row(0, 7, what -> Check.parcel(x, n, what))).append(row(0, 5, what -> Check.person(x, n, what)));
            text.append(row(0, 6, i -> x.much(n, i)));
        }
        return text.toString();
    }

    private static String row(int from, int to, java.util.function.IntUnaryOperator asked) {
        StringBuilder text = new StringBuilder();
        for (int k = from; k < to; k++) {
            text.append(asked.applyAsInt(k)).append(' ');
        }
        return text.toString();
    }
}
