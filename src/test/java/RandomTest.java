import java.util.ArrayList;
import java.util.List;
import java.util.Random;

/** Runs of calls by chance, the class beside the Oracle: each answer must be the same. */
public final class RandomTest {
    private static final String[] IDEA_NAMES = {"lamp", "doll", "cat", "x", "wonders", "boat", "gong"};
    private static final String[] ROOM_NAMES = {"hall", "attic", "b", "cellars", "porch"};
    private static final String[] PARCEL_NAMES = {"box", "bag", "crate", "tin", "q", "packets", "sack"};
    private static final String[] PERSON_NAMES = {"ann", "bob", "cy", "d", "eve", "fay", "gus", "hannahs", "ivy"};
    private static final String[] ODD_TOKENS = {"idea", "room", "parcel", "person", "sits", "has", "quarrel", "leak",
        "guess", "joins", "stands", "wishes", "guesses", "open", "carry", "day", "or", "and", "not", "opened",
        "nothing", "watched", "is", "in", "size", "bulge", "turned", "number", ";", "<", "=", ">", "(", ")", ".",
        "0", "1", "9", "10", "99", "007", "061", "100", "1234", "a1", "toolongs", "A", "nobody", "lamp", "hall",
        "box", "ann", "doll", "bob"};

    private final Random chance;
    private final WonderParcels x = new WonderParcels();
    private final Oracle o = new Oracle();
    private final int run;
    private final StringBuilder story = new StringBuilder();

    private RandomTest(int run) {
        this.run = run;
        chance = new Random(run * 7919L + 17);
    }

    public static void main(String[] args) {
        int runs = args.length > 0 ? Integer.parseInt(args[0]) : 3000;
        for (int run = 0; run < runs && Check.wrongSoFar() < 5; run++) {
            new RandomTest(run).go();
        }
        Check.end("RandomTest");
    }

    private void go() {
        int calls = 20 + chance.nextInt(150);
        int kind = chance.nextInt(4);
        feed(postText());
        same("post()", x.post(), o.post());
        for (int k = 0; k < calls; k++) {
            call(kind);
            if (Check.wrongSoFar() > 0) {
                System.out.println("run " + run + ":\n" + story);
                return;
            }
        }
        sameAll();
        if (Check.wrongSoFar() > 0) {
            System.out.println("run " + run + ":\n" + story);
        }
    }

    private void same(String call, long got, long due) {
        story.append(call).append(" = ").append(due).append('\n');
        Check.is("run " + run + " " + call, got, due);
    }

    private void same(String call, boolean got, boolean due) {
        same(call, got ? 1 : 0, due ? 1 : 0);
    }

    // ---- texts

    private int upTo(int most) {
        return chance.nextInt(most + 1);
    }

    private String one(String[] of, int most) {
        return of[chance.nextInt(Math.min(most, of.length))];
    }

    private List<String> postTokens() {
        List<String> t = new ArrayList<>();
        int extra = chance.nextInt(12) == 0 ? 1 : 0;
        boolean few = chance.nextInt(6) == 0;
        int ideas = few ? upTo(3) : 2 + upTo(4 + extra);
        int rooms = few ? upTo(2) : 1 + upTo(3 + extra);
        int parcels = rooms == 0 ? 0 : few ? upTo(2) : 1 + upTo(5 + extra);
        int persons = ideas == 0 ? 0 : few ? upTo(2) : 1 + upTo(7 + extra);
        boolean small = chance.nextBoolean();
        for (int i = 0; i < ideas; i++) {
            add(t, "idea", IDEA_NAMES[i], "" + (1 + upTo(small ? 15 : 59)), ";");
        }
        for (int r = 0; r < rooms; r++) {
            add(t, "room", ROOM_NAMES[r], ";");
        }
        for (int q = 0; q < parcels; q++) {
            add(t, "parcel", PARCEL_NAMES[q], one(ROOM_NAMES, rooms), ";");
        }
        for (int p = 0; p < persons; p++) {
            add(t, "person", PERSON_NAMES[p], one(IDEA_NAMES, ideas), "" + (1 + upTo(8)), ";");
            if (parcels > 0 && chance.nextInt(3) > 0) {
                add(t, "sits", PERSON_NAMES[p], one(PARCEL_NAMES, parcels), ";");
            }
        }
        for (int k = 0; k < parcels * ideas; k++) {
            if (chance.nextInt(6) == 0) {
                add(t, "has", PARCEL_NAMES[k / ideas], IDEA_NAMES[k % ideas], "" + (1 + upTo(small ? 20 : 98)), ";");
            }
        }
        int peace = 1 + upTo(3);
        for (int k = 0; k < ideas * ideas; k++) {
            if (k / ideas < k % ideas && chance.nextInt(peace) == 0) {
                add(t, "quarrel", IDEA_NAMES[k / ideas], IDEA_NAMES[k % ideas], ";");
            }
        }
        if (chance.nextInt(20) == 0) {
            add(t, "has", one(PARCEL_NAMES, 2), one(IDEA_NAMES, 2), "1", ";");
            add(t, "quarrel", one(IDEA_NAMES, 3), one(IDEA_NAMES, 3), ";");
        }
        if (chance.nextInt(3) > 0) {
            add(t, "leak", "" + upTo(5), ";");
        }
        if (chance.nextInt(3) == 0) {
            add(t, "guess", "" + (1 + upTo(19)), ";");
        }
        return t;
    }

    private static void add(List<String> t, String... tokens) {
        for (String token : tokens) {
            t.add(token);
        }
    }

    private byte[] postText() {
        return joined(postTokens(), 900, 4);
    }

    private byte[] bookText() {
        List<String> t = new ArrayList<>();
        int lines = chance.nextInt(15) == 0 ? 38 + upTo(5) : upTo(8);
        for (int k = 0; k < lines; k++) {
            String p = one(PERSON_NAMES, Math.max(1, o.count(3)));
            String q = one(PARCEL_NAMES, Math.max(1, o.count(2)));
            String i = one(IDEA_NAMES, Math.max(1, o.count(0)));
            switch (chance.nextInt(8)) {
                case 0, 1 -> add(t, p, "joins", q, ";");
                case 2 -> add(t, p, "stands", ";");
                case 3 -> add(t, p, "wishes", i, ";");
                case 4 -> add(t, p, "guesses", i, ";");
                case 5 -> add(t, chance.nextInt(4) > 0 ? "day" : "open", t.size() > 1 && chance.nextInt(4) == 0 ? q : "3", ";");
                case 6 -> add(t, "carry", q, one(ROOM_NAMES, Math.max(1, o.count(1))), ";");
                default -> add(t, "day", "" + (1 + upTo(lines > 20 ? 3 : 59)), ";");
            }
        }
        return joined(t, 400, 6);
    }

    private byte[] sentenceText() {
        List<String> t = new ArrayList<>();
        cond(t, chance.nextInt(12) == 0 ? 9 : 3);
        return joined(t, 200, 6);
    }

    private void cond(List<String> t, int depth) {
        int parts = 1 + (chance.nextInt(3) == 0 ? upTo(3) : 0);
        for (int k = 0; k < parts; k++) {
            if (k > 0) {
                t.add(chance.nextBoolean() ? "or" : "and");
            }
            int what = chance.nextInt(depth > 0 ? 14 : 10);
            if (what >= 12) {
                t.add("not");
                cond(t, depth - 1);
            } else if (what >= 10) {
                t.add("(");
                cond(t, depth - 1);
                t.add(")");
            } else {
                leaf(t, what);
            }
        }
    }

    private void leaf(List<String> t, int what) {
        String sign = one(new String[] {"<", "=", ">"}, 3);
        switch (what) {
            case 0 -> t.add("opened");
            case 1 -> t.add("nothing");
            case 2 -> t.add("watched");
            case 3, 4 -> add(t, "is", one(IDEA_NAMES, Math.max(1, o.count(0))));
            case 5 -> add(t, "in", one(ROOM_NAMES, Math.max(1, o.count(1))));
            case 6 -> add(t, "size", sign, "" + upTo(60));
            case 7 -> add(t, "bulge", sign, "" + upTo(5));
            case 8 -> add(t, "turned", sign, "" + upTo(3));
            default -> add(t, "number", sign, "" + upTo(5));
        }
    }

    /** The tokens as bytes, spoilt now and then: another token, one less, another byte, too long. */
    private byte[] joined(List<String> t, int most, int spoilt) {
        boolean spoils = chance.nextInt(spoilt) == 0;
        if (spoils && !t.isEmpty()) {
            int at = chance.nextInt(t.size());
            int number = at;
            while (number < t.size() && !Character.isDigit(t.get(number).charAt(0))) {
                number++;
            }
            switch (chance.nextInt(6)) {
                case 0 -> t.remove(at);
                case 1 -> t.add(at, one(ODD_TOKENS, 99));
                case 2 -> t.set(at, one(ODD_TOKENS, 99));
                case 3 -> {
                    if (number < t.size()) {
                        t.set(number, one(new String[] {"0", "00", "5", "6", "9", "10", "20", "21", "60", "61", "99", "100", "999", "0001"}, 99));
                    }
                }
                case 4 -> t.set(at, t.get(chance.nextInt(t.size())));
                default -> {
                    while (t.size() > at) {
                        t.remove(t.size() - 1);
                    }
                }
            }
        }
        StringBuilder text = new StringBuilder();
        boolean tight = chance.nextInt(3) == 0;
        for (String token : t) {
            boolean needed = text.length() > 0 && Character.isLetterOrDigit(text.charAt(text.length() - 1))
                    && Character.isLetterOrDigit(token.charAt(0));
            if (needed || !tight || chance.nextInt(9) == 0) {
                text.append(chance.nextInt(5) == 0 ? '\n' : ' ');
            }
            text.append(token);
        }
        if (spoils && chance.nextInt(4) == 0 && text.length() > 0) {
            int at = chance.nextInt(text.length());
            text.setCharAt(at, (char) chance.nextInt(256));
        }
        if (chance.nextInt(12) == 0) {
            pad(text, most);
        }
        text.setLength(Math.min(940, text.length()));
        return Check.bytes(text.toString());
    }

    /** Blanks ahead or at the end, so that the text ends near the most bytes it may have. */
    private void pad(StringBuilder text, int most) {
        int want = Math.min(940, most - 6 + upTo(14));
        int at = chance.nextBoolean() ? 0 : text.length();
        while (text.length() < want) {
            text.insert(at, ' ');
        }
    }

    private void feed(byte[] text) {
        story.append("tape: ").append(new String(text, java.nio.charset.StandardCharsets.ISO_8859_1)).append('\n');
        x.end(0);
        o.end(0);
        for (int at = 0; at < text.length; at += 20) {
            int[] n = new int[5];
            for (int k = 0; k < 20; k++) {
                n[k / 4] = n[k / 4] << 8 | (at + k < text.length ? text[at + k] & 255 : chance.nextInt(256));
            }
            same("feed", x.feed(n[0], n[1], n[2], n[3], n[4]), o.feed(n[0], n[1], n[2], n[3], n[4]));
        }
        same("end", x.end(text.length), o.end(text.length));
    }

    // ---- calls

    private int q() {
        return chance.nextInt(20) == 0 ? chance.nextInt(9) - 2 : chance.nextInt(Math.max(1, o.count(2)));
    }

    private int i() {
        return chance.nextInt(20) == 0 ? chance.nextInt(9) - 2 : chance.nextInt(Math.max(1, o.count(0)));
    }

    private int p() {
        return chance.nextInt(20) == 0 ? chance.nextInt(11) - 2 : chance.nextInt(Math.max(1, o.count(3)));
    }

    private int r() {
        return chance.nextInt(20) == 0 ? chance.nextInt(7) - 2 : chance.nextInt(Math.max(1, o.count(1)));
    }

    private void call(int kind) {
        switch (chance.nextInt(10)) {
            case 0, 1, 2, 3 -> act(kind);
            case 4, 5, 6 -> foresee();
            case 7 -> text();
            case 8 -> look();
            default -> keep();
        }
    }

    private void act(int kind) {
        int p = p();
        int q = q();
        int i = i();
        int r = r();
        switch (chance.nextInt(10)) {
            case 0, 1 -> same("sit(" + p + ", " + q + ")", x.sit(p, q), o.sit(p, q));
            case 2 -> same("stand(" + p + ")", x.stand(p), o.stand(p));
            case 3 -> same("wish(" + p + ", " + i + ")", x.wish(p, i), o.wish(p, i));
            case 4, 5 -> same("guess(" + p + ", " + i + ")", x.guess(p, i), o.guess(p, i));
            case 6 -> {
                if (chance.nextInt(3) == 0) {
                    same("open(" + q + ")", x.open(q), o.open(q));
                }
            }
            case 7 -> same("carry(" + q + ", " + r + ")", x.carry(q, r), o.carry(q, r));
            case 8 -> {
                int n = kind == 0 ? upTo(62) : kind == 1 ? 60 : upTo(4);
                same("days(" + n + ")", x.days(n), o.days(n));
            }
            default -> {
                int n = kind == 0 ? upTo(62) : upTo(6);
                int seed = chance.nextInt();
                same("drawn(" + n + ", " + seed + ")", x.drawn(n, seed), o.drawn(n, seed));
            }
        }
    }

    private void foresee() {
        int q = q();
        int i = i();
        switch (chance.nextInt(10)) {
            case 0, 1 -> same("when(" + q + ", " + i + ")", x.when(q, i), o.when(q, i));
            case 2 -> {
                int k = chance.nextInt(6) == 0 ? upTo(32) : upTo(8);
                same("sitters(" + q + ", " + i + ", " + k + ")", x.sitters(q, i, k), o.sitters(q, i, k));
                same("sitting()", x.sitting(), o.sitting());
            }
            case 3, 4 -> {
                int days = chance.nextInt(8) == 0 ? upTo(32) : 1 + upTo(5);
                int bulges = chance.nextBoolean() ? 0 : chance.nextInt(8) == 0 ? upTo(255) : days;
                byte[] four = {(byte) q, (byte) days, (byte) (chance.nextInt(4) == 0 ? 255 : i), (byte) bulges, 0};
                feed(java.util.Arrays.copyOf(four, chance.nextInt(20) == 0 ? chance.nextInt(6) : 4));
                same("sat()", x.sat(), o.sat());
                same("surely()", x.surely(), o.surely());
                same("ask()", x.ask(), o.ask());
            }
            case 5 -> same("let(" + q + ")", x.let(q), o.let(q));
            case 6 -> {
                same("rooms()", x.rooms(), o.rooms());
                for (int k = -1; k < 8; k++) {
                    same("roomOf(" + k + ")", x.roomOf(k), o.roomOf(k));
                }
            }
            case 7 -> {
                same("rest()", x.rest(), o.rest());
                for (int k = -1; k < 10; k++) {
                    same("rested(" + k + ")", x.rested(k), o.rested(k));
                }
            }
            case 8 -> same("greatest()", x.greatest(), o.greatest());
            default -> {
                int n = upTo(6) == 0 ? upTo(32) : 1 + upTo(4);
                int seed = chance.nextInt();
                same("odds(" + q + ", " + i + ", " + n + ", " + seed + ")", x.odds(q, i, n, seed), o.odds(q, i, n, seed));
            }
        }
    }

    private void text() {
        switch (chance.nextInt(7)) {
            case 0, 1, 2 -> {
                feed(bookText());
                int lives = chance.nextInt(9) == 0 ? chance.nextInt(5) - 2 : chance.nextInt(2);
                same("book(" + lives + ")", x.book(lives), o.book(lives));
                for (int what = -1; what < 5; what++) {
                    same("told(" + what + ")", x.told(what), o.told(what));
                }
            }
            case 3, 4, 5 -> {
                feed(sentenceText());
                same("sentence()", x.sentence(), o.sentence());
            }
            default -> {
                if (chance.nextInt(4) == 0) {
                    feed(postText());
                    same("post()", x.post(), o.post());
                }
            }
        }
        same("fault()", x.fault(), o.fault());
        for (int k = -2; k < 7; k++) {
            same("said(" + k + ")", x.said(k), o.said(k));
        }
    }

    private void look() {
        int q = q();
        int length = o.tag(q);
        same("tag(" + q + ")", x.tag(q), length);
        for (int i = -1; i < 28; i++) {
            same("byteAt(" + i + ")", x.byteAt(i), o.byteAt(i));
        }
        sameAll();
    }

    private void sameAll() {
        for (int what = -1; what < 8; what++) {
            same("now(" + what + ")", x.now(what), o.now(what));
            same("count(" + what + ")", x.count(what), o.count(what));
            same("need(" + what + ")", x.need(what), o.need(what));
            same("quarrels(" + what + ")", x.quarrels(what), o.quarrels(what));
            for (int k = -1; k < 9; k++) {
                same("parcel(" + k + ", " + what + ")", Check.parcel(x, k, what), o.parcel(k, what));
                same("person(" + k + ", " + what + ")", Check.person(x, k, what), o.person(k, what));
                same("much(" + k + ", " + what + ")", x.much(k, what), o.much(k, what));
            }
        }
    }

    private void keep() {
        int k = chance.nextInt(8) == 0 ? chance.nextInt(5) - 2 : chance.nextInt(2);
        switch (chance.nextInt(6)) {
            case 0 -> same("image(" + k + ")", x.image(k), o.image(k));
            case 1 -> same("restore(" + k + ")", x.restore(k), o.restore(k));
            default -> same("undo()", x.undo(), o.undo());
        }
    }
}
