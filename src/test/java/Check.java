import java.nio.charset.StandardCharsets;

/** What the tests share: answers are compared, texts are fed, and a test ends with exit code 1 if one was wrong. */
final class Check {
    private static int looked = 0;
    private static int wrong = 0;

    private Check() {
    }

    static void is(String call, long got, long due) {
        looked++;
        if (got != due) {
            wrong++;
            System.out.println(call + " answered " + got + ", due is " + due);
        }
    }

    static void is(String call, boolean got, boolean due) {
        is(call, got ? 1 : 0, due ? 1 : 0);
    }

    static void is(String call, String got, String due) {
        looked++;
        if (!got.equals(due)) {
            wrong++;
            System.out.println(call + " answered '" + got + "', due is '" + due + "'");
        }
    }

    /** Ends a test: says how many answers were looked at. */
    static void end(String test) {
        System.out.println(test + ": " + looked + " answers, " + wrong + " wrong");
        if (wrong != 0) {
            System.exit(1);
        }
    }

    static int wrongSoFar() {
        return wrong;
    }

    /** The tape is the text, whatever was on it. */
    static void tape(WonderParcels x, byte[] text) {
        x.end(0);
        for (int at = 0; at < text.length; at += 20) {
            x.feed(four(text, at), four(text, at + 4), four(text, at + 8), four(text, at + 12), four(text, at + 16));
        }
        x.end(text.length);
    }

    static void tape(WonderParcels x, String text) {
        tape(x, bytes(text));
    }

    static byte[] bytes(String text) {
        return text.getBytes(StandardCharsets.ISO_8859_1);
    }

    static int post(WonderParcels x, String text) {
        tape(x, text);
        return x.post();
    }

    static int book(WonderParcels x, String text, int lives) {
        tape(x, text);
        return x.book(lives);
    }

    static int sentence(WonderParcels x, String text) {
        tape(x, text);
        return x.sentence();
    }

    static int sat(WonderParcels x, int q, int days, int i, int bulges) {
        tape(x, new byte[] {(byte) q, (byte) days, (byte) i, (byte) bulges});
        return x.sat();
    }

    static String tag(WonderParcels x, int q) {
        int length = x.tag(q);
        StringBuilder text = new StringBuilder();
        for (int i = 0; i < length; i++) {
            text.append((char) x.byteAt(i));
        }
        return text.toString();
    }

    static int parcel(WonderParcels x, int q, int what) {
        try {
            return x.parcel(q, what);
        } catch (java.util.NoSuchElementException e) {
            return -99;
        }
    }

    static int person(WonderParcels x, int p, int what) {
        try {
            return x.person(p, what);
        } catch (java.util.NoSuchElementException e) {
            return -99;
        }
    }

    private static int four(byte[] text, int at) {
        int four = 0;
        for (int i = at; i < at + 4; i++) {
            four = four << 8 | (i < text.length ? text[i] & 255 : 0);
        }
        return four;
    }
}
