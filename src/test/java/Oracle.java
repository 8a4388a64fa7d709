import java.util.ArrayDeque;
import java.util.ArrayList;
import java.util.Arrays;
import java.util.Deque;
import java.util.HashMap;
import java.util.HashSet;
import java.util.List;
import java.util.Map;
import java.util.Set;
import java.util.function.BiPredicate;

/**
 * The document a second time, as literally as may be and with no thought of speed: days go person by person,
 * texts are cut into tokens ahead of being read, faults are thrown. RandomTest compares it with the class.
 */
final class Oracle {
    static final class Fault extends Exception {
        private static final long serialVersionUID = 1L;
        final int kind;
        final int place;

        Fault(int kind, int place) {
            this.kind = kind;
            this.place = place;
        }
    }

    /** type: w word, n number, e end, x no token, else the sign itself. */
    private record Token(char type, String text, int place) {
    }

    private record Named(char sort, int number) {
    }

    private static final Set<String> KEYWORDS = new HashSet<>(Arrays.asList(
            "idea", "room", "parcel", "person", "sits", "has", "quarrel", "leak", "guess",
            "joins", "stands", "wishes", "guesses", "open", "carry", "day",
            "or", "and", "not", "opened", "nothing", "watched", "is", "in", "size", "bulge", "turned", "number"));

    private static final class Person {
        int wish;
        int keen;
        int seat = -1;
        int right;
        int wrong;

        Person copy() {
            Person c = new Person();
            c.wish = wish;
            c.keen = keen;
            c.seat = seat;
            c.right = right;
            c.wrong = wrong;
            return c;
        }
    }

    private static final class Parcel {
        String name;
        int room;
        int[] much = new int[6];
        int bulge;
        boolean open;
        int turned;

        Parcel copy() {
            Parcel c = new Parcel();
            c.name = name;
            c.room = room;
            c.much = much.clone();
            c.bulge = bulge;
            c.open = open;
            c.turned = turned;
            return c;
        }
    }

    private static final class All {
        Map<String, Named> names = new HashMap<>();
        List<String> ideaNames = new ArrayList<>();
        List<Integer> need = new ArrayList<>();
        Set<Set<Integer>> quarrels = new HashSet<>();
        int rooms;
        List<Parcel> parcels = new ArrayList<>();
        List<Person> persons = new ArrayList<>();
        int leak;
        int guess = 5;
        int day;

        All copy() {
            All c = new All();
            c.names = names;
            c.ideaNames = ideaNames;
            c.need = need;
            c.quarrels = quarrels;
            c.rooms = rooms;
            for (Parcel q : parcels) {
                c.parcels.add(q.copy());
            }
            for (Person p : persons) {
                c.persons.add(p.copy());
            }
            c.leak = leak;
            c.guess = guess;
            c.day = day;
            return c;
        }

        int is(int q) {
            int best = -1;
            for (int i = 0; i < need.size(); i++) {
                int has = parcels.get(q).much[i];
                if (has >= need.get(i) && (best == -1 || has > parcels.get(q).much[best])) {
                    best = i;
                }
            }
            return best;
        }

        int size(int q) {
            return Arrays.stream(parcels.get(q).much).sum();
        }

        boolean watched(int q) {
            return persons.stream().anyMatch(p -> p.seat == q);
        }

        void goDay() {
            int[] before = new int[parcels.size()];
            for (int q = 0; q < parcels.size(); q++) {
                before[q] = is(q);
            }
            for (Person p : persons) {
                if (p.seat == -1 || parcels.get(p.seat).open) {
                    continue;
                }
                Parcel by = parcels.get(p.seat);
                by.much[p.wish] = Math.min(99, by.much[p.wish] + p.keen);
                for (Parcel other : parcels) {
                    if (other != by && other.room == by.room && !other.open) {
                        other.much[p.wish] = Math.min(99, other.much[p.wish] + leak);
                    }
                }
            }
            for (int q = 0; q < parcels.size(); q++) {
                Set<Integer> wishes = new HashSet<>();
                for (Person p : persons) {
                    if (p.seat == q) {
                        wishes.add(p.wish);
                    }
                }
                if (!parcels.get(q).open && wishes.size() >= 2) {
                    parcels.get(q).bulge = Math.min(99, parcels.get(q).bulge + 1);
                }
            }
            for (int q = 0; q < parcels.size(); q++) {
                if (is(q) != before[q]) {
                    parcels.get(q).turned++;
                }
            }
            day++;
        }

        int whySit(int p, int q) {
            if (persons.get(p).seat == q) {
                return 1;
            }
            persons.get(p).seat = q;
            return 0;
        }

        int whyStand(int p) {
            if (persons.get(p).seat == -1) {
                return 1;
            }
            persons.get(p).seat = -1;
            return 0;
        }

        int whyWish(int p, int i) {
            if (persons.get(p).wish == i) {
                return 1;
            }
            persons.get(p).wish = i;
            return 0;
        }

        /** 1 right, 0 wrong, -2, -3. */
        int guessed(int p, int i) {
            Person he = persons.get(p);
            if (he.seat == -1) {
                return -2;
            }
            Parcel q = parcels.get(he.seat);
            if (q.open) {
                return -3;
            }
            if (is(he.seat) == i) {
                q.much[i] = Math.max(0, q.much[i] - guess);
                he.right++;
                return 1;
            }
            q.much[i] = Math.min(99, q.much[i] + 1);
            he.wrong++;
            return 0;
        }

        int whyOpen(int q) {
            if (parcels.get(q).open) {
                return 1;
            }
            parcels.get(q).open = true;
            return 0;
        }

        int whyCarry(int q, int room) {
            if (parcels.get(q).open) {
                return 1;
            }
            if (parcels.get(q).room == room) {
                return 2;
            }
            parcels.get(q).room = room;
            return 0;
        }

        int draws(int n, int seed) {
            int[] x = {seed};
            int went = 0;
            while (went < n && day < 400) {
                for (int p = 0; p < persons.size(); p++) {
                    int d = draw(x, 8);
                    if (d == 0) {
                        whyStand(p);
                    } else if (d == 1 && !parcels.isEmpty()) {
                        whySit(p, draw(x, parcels.size()));
                    } else if (d == 2 && !need.isEmpty()) {
                        whyWish(p, draw(x, need.size()));
                    }
                }
                goDay();
                went++;
            }
            return went;
        }

        private static int draw(int[] x, int n) {
            x[0] = x[0] * 1103515245 + 12345;
            return (x[0] >>> 8) % n;
        }
    }

    private record Step(String what, int a, int b) {
    }

    private record Said(BiPredicate<All, Integer> holds) {
    }

    private record Kept(All all, Said said) {
    }

    private byte[] tape = new byte[0];
    private All now = new All();
    private Said said;
    private final Deque<All> undo = new ArrayDeque<>();
    private final Kept[] images = new Kept[2];
    private int fault;
    private int sitting = -1;
    private int surely = -1;
    private int ask = -1;
    private int[] roomOf = new int[0];
    private int[] rested = new int[0];
    private String tag = "";
    private int[] told = {-1, -1, -1, -1};

    // ---- the tape

    int feed(int a, int b, int c, int d, int e) {
        if (tape.length + 20 > 940) {
            return -1;
        }
        byte[] more = Arrays.copyOf(tape, tape.length + 20);
        int at = tape.length;
        for (int n : new int[] {a, b, c, d, e}) {
            for (int k = 0; k < 4; k++) {
                more[at++] = (byte) (n >> (24 - 8 * k));
            }
        }
        tape = more;
        return tape.length;
    }

    boolean end(int n) {
        if (n < 0 || n > tape.length) {
            return false;
        }
        tape = Arrays.copyOf(tape, n);
        return true;
    }

    private static boolean isRun(int c) {
        return c >= 'a' && c <= 'z' || c >= '0' && c <= '9';
    }

    private Deque<Token> tokens(int most) {
        Deque<Token> all = new ArrayDeque<>();
        int at = 0;
        while (at < tape.length && at < most) {
            int c = tape[at] & 255;
            if (c == 32 || c == 10) {
                at++;
                continue;
            }
            int stop = at + 1;
            if (isRun(c)) {
                while (stop < tape.length && isRun(tape[stop] & 255)) {
                    stop++;
                }
            }
            String text = new String(tape, at, stop - at, java.nio.charset.StandardCharsets.ISO_8859_1);
            char type = 'x';
            if (text.matches("[a-z]{1,7}")) {
                type = 'w';
            } else if (text.matches("[0-9]{1,3}")) {
                type = 'n';
            } else if (text.matches("[;<=>()]")) {
                type = text.charAt(0);
            }
            all.add(new Token(type, text, at));
            at = stop;
        }
        all.add(new Token('e', "", Math.min(tape.length, most)));
        return all;
    }

    private static Token next(Deque<Token> all, char type) throws Fault {
        Token t = all.peek();
        if (t.type != type) {
            throw new Fault(1, t.place);
        }
        return all.poll();
    }

    private static Token word(Deque<Token> all, String text) throws Fault {
        Token t = next0(all);
        if (!t.text.equals(text)) {
            throw new Fault(1, t.place);
        }
        return t;
    }

    private static Token next0(Deque<Token> all) throws Fault {
        Token t = all.peek();
        if (t.type == 'e') {
            throw new Fault(1, t.place);
        }
        return all.poll();
    }

    private static Token nameToken(Deque<Token> all) throws Fault {
        Token t = next(all, 'w');
        if (KEYWORDS.contains(t.text)) {
            throw new Fault(1, t.place);
        }
        return t;
    }

    private static int known(Deque<Token> all, All of, char sort) throws Fault {
        Token t = nameToken(all);
        Named n = of.names.get(t.text);
        if (n == null || n.sort != sort) {
            throw new Fault(3, t.place);
        }
        return n.number;
    }

    private static int number(Deque<Token> all, int least, int most) throws Fault {
        Token t = next(all, 'n');
        int n = Integer.parseInt(t.text);
        if (n < least || n > most) {
            throw new Fault(2, t.place);
        }
        return n;
    }

    // ---- post

    int post() {
        Deque<Token> all = tokens(900);
        boolean tooLong = tape.length > 900;
        tape = new byte[0];
        try {
            All fresh = new All();
            int lines = 0;
            Set<String> once = new HashSet<>();
            while (all.peek().type != 'e') {
                postLine(all, fresh, once);
                next(all, ';');
                lines++;
            }
            if (tooLong) {
                throw new Fault(1, 900);
            }
            fault = 0;
            now = fresh;
            said = null;
            undo.clear();
            return lines;
        } catch (Fault f) {
            fault = f.kind;
            return -1 - f.place;
        }
    }

    private static void declare(Deque<Token> all, All of, char sort, int number) throws Fault {
        Token t = nameToken(all);
        if (of.names.containsKey(t.text)) {
            throw new Fault(3, t.place);
        }
        of.names.put(t.text, new Named(sort, number));
        if (sort == 'i') {
            of.ideaNames.add(t.text);
        }
        if (sort == 'q') {
            of.parcels.get(number).name = t.text;
        }
    }

    private static void postLine(Deque<Token> all, All of, Set<String> once) throws Fault {
        Token first = next(all, 'w');
        switch (first.text) {
            case "idea" -> {
                limit(of.need.size(), 6, first);
                declare(all, of, 'i', of.need.size());
                of.need.add(number(all, 1, 60));
            }
            case "room" -> {
                limit(of.rooms, 4, first);
                declare(all, of, 'r', of.rooms);
                of.rooms++;
            }
            case "parcel" -> {
                limit(of.parcels.size(), 6, first);
                of.parcels.add(new Parcel());
                declare(all, of, 'q', of.parcels.size() - 1);
                of.parcels.get(of.parcels.size() - 1).room = known(all, of, 'r');
            }
            case "person" -> {
                limit(of.persons.size(), 8, first);
                of.persons.add(new Person());
                declare(all, of, 'p', of.persons.size() - 1);
                of.persons.get(of.persons.size() - 1).wish = known(all, of, 'i');
                of.persons.get(of.persons.size() - 1).keen = number(all, 1, 9);
            }
            case "sits" -> {
                int place = all.peek().place;
                int p = known(all, of, 'p');
                if (of.persons.get(p).seat != -1) {
                    throw new Fault(3, place);
                }
                of.persons.get(p).seat = known(all, of, 'q');
            }
            case "has" -> {
                int q = known(all, of, 'q');
                int place = all.peek().place;
                int i = known(all, of, 'i');
                if (!once.add("has " + q + " " + i)) {
                    throw new Fault(3, place);
                }
                of.parcels.get(q).much[i] = number(all, 1, 99);
            }
            case "quarrel" -> {
                int i = known(all, of, 'i');
                int place = all.peek().place;
                int j = known(all, of, 'i');
                if (i == j || !of.quarrels.add(new HashSet<>(Arrays.asList(i, j)))) {
                    throw new Fault(3, place);
                }
            }
            case "leak" -> {
                again(once, first);
                of.leak = number(all, 0, 5);
            }
            case "guess" -> {
                again(once, first);
                of.guess = number(all, 1, 20);
            }
            default -> throw new Fault(1, first.place);
        }
    }

    private static void limit(int have, int most, Token first) throws Fault {
        if (have == most) {
            throw new Fault(4, first.place);
        }
    }

    private static void again(Set<String> once, Token first) throws Fault {
        if (!once.add(first.text)) {
            throw new Fault(3, first.place);
        }
    }

    // ---- what is so

    int fault() {
        return fault;
    }

    private boolean isQ(int q) {
        return q >= 0 && q < now.parcels.size();
    }

    private boolean isP(int p) {
        return p >= 0 && p < now.persons.size();
    }

    private boolean isI(int i) {
        return i >= 0 && i < now.need.size();
    }

    int much(int q, int i) {
        return isQ(q) && isI(i) ? now.parcels.get(q).much[i] : -1;
    }

    /** -99 stands for the exception. */
    int parcel(int q, int what) {
        if (!isQ(q) || what < 0 || what > 6) {
            return -99;
        }
        Parcel it = now.parcels.get(q);
        int bits = 0;
        for (int p = 0; p < now.persons.size(); p++) {
            bits += now.persons.get(p).seat == q ? 1 << p : 0;
        }
        return new int[] {now.is(q), it.room, now.size(q), it.bulge, it.open ? 1 : 0, it.turned, bits}[what];
    }

    int person(int p, int what) {
        if (!isP(p) || what < 0 || what > 4) {
            return -99;
        }
        Person it = now.persons.get(p);
        return new int[] {it.wish, it.keen, it.seat, it.right, it.wrong}[what];
    }

    int need(int i) {
        return isI(i) ? now.need.get(i) : -1;
    }

    int quarrels(int i) {
        if (!isI(i)) {
            return -1;
        }
        int bits = 0;
        for (Set<Integer> two : now.quarrels) {
            if (two.contains(i)) {
                for (int j : two) {
                    bits |= j == i ? 0 : 1 << j;
                }
            }
        }
        return bits;
    }

    private static int nothings(All of) {
        int bits = 0;
        for (int q = 0; q < of.parcels.size(); q++) {
            bits |= of.is(q) == -1 ? 1 << q : 0;
        }
        return bits;
    }

    int now(int what) {
        int open = 0;
        int watched = 0;
        int all = 0;
        int bulges = 0;
        int turned = 0;
        for (int q = 0; q < now.parcels.size(); q++) {
            Parcel it = now.parcels.get(q);
            open |= it.open ? 1 << q : 0;
            watched |= now.watched(q) ? 1 << q : 0;
            all += now.size(q);
            bulges += it.bulge;
            turned += it.turned;
        }
        return what < 0 || what > 6 ? -1 : new int[] {now.day, open, nothings(now), watched, all, bulges, turned}[what];
    }

    // ---- acts

    private void kept(All before) {
        undo.addLast(before);
        if (undo.size() > 8) {
            undo.removeFirst();
        }
    }

    private int done(All before, int why) {
        if (why == 0) {
            kept(before);
        }
        return why;
    }

    int sit(int p, int q) {
        return isP(p) && isQ(q) ? done(now.copy(), now.whySit(p, q)) : -1;
    }

    int stand(int p) {
        return isP(p) ? done(now.copy(), now.whyStand(p)) : -1;
    }

    int wish(int p, int i) {
        return isP(p) && isI(i) ? done(now.copy(), now.whyWish(p, i)) : -1;
    }

    int guess(int p, int i) {
        if (!isP(p) || !isI(i)) {
            return -1;
        }
        All before = now.copy();
        int got = now.guessed(p, i);
        if (got >= 0) {
            kept(before);
        }
        return got;
    }

    int open(int q) {
        return isQ(q) ? done(now.copy(), now.whyOpen(q)) : -1;
    }

    int carry(int q, int room) {
        return isQ(q) && room >= 0 && room < now.rooms ? done(now.copy(), now.whyCarry(q, room)) : -1;
    }

    int days(int n) {
        if (n < 1 || n > 60) {
            return -1;
        }
        All before = now.copy();
        int went = 0;
        while (went < n && now.day < 400) {
            now.goDay();
            went++;
        }
        if (went > 0) {
            kept(before);
        }
        return went;
    }

    int undo() {
        if (undo.isEmpty()) {
            return -1;
        }
        now = undo.removeLast();
        return undo.size();
    }

    // ---- what would be

    int when(int q, int i) {
        if (!isQ(q) || !isI(i)) {
            return -1;
        }
        All c = now.copy();
        for (int k = 0; k <= 60; k++) {
            if (c.is(q) == i) {
                return k;
            }
            if (c.day == 400) {
                return -1;
            }
            c.goDay();
        }
        return -1;
    }

    int sitters(int q, int i, int k) {
        if (!isQ(q) || !isI(i) || k < 1 || k > 30 || now.parcels.get(q).open || now.day + k > 400) {
            return -1;
        }
        for (int size = 0; size <= now.persons.size(); size++) {
            for (int set = 0; set < 1 << now.persons.size(); set++) {
                if (Integer.bitCount(set) != size) {
                    continue;
                }
                All c = now.copy();
                for (int p = 0; p < c.persons.size(); p++) {
                    Person he = c.persons.get(p);
                    if ((set >> p & 1) == 1) {
                        he.seat = q;
                    } else if (he.seat == q) {
                        he.seat = -1;
                    }
                }
                for (int d = 0; d < k; d++) {
                    c.goDay();
                }
                if (c.is(q) == i) {
                    sitting = set;
                    return size;
                }
            }
        }
        return -1;
    }

    int sitting() {
        return sitting;
    }

    int sat() {
        byte[] t = tape;
        tape = new byte[0];
        if (t.length != 4) {
            return -1;
        }
        int q = t[0] & 255;
        int days = t[1] & 255;
        int i = t[2] & 255;
        int more = t[3] & 255;
        if (!isQ(q) || days < 1 || days > 30 || i != 255 && !isI(i) || now.parcels.get(q).open) {
            return -1;
        }
        List<Integer> sets = new ArrayList<>();
        for (int set = 0; set < 1 << now.persons.size(); set++) {
            All c = now.copy();
            c.leak = 0;
            for (int p = 0; p < c.persons.size(); p++) {
                c.persons.get(p).seat = (set >> p & 1) == 1 ? q : -1;
            }
            for (int d = 0; d < days; d++) {
                c.goDay();
            }
            if (c.is(q) == (i == 255 ? -1 : i) && c.parcels.get(q).bulge == now.parcels.get(q).bulge + more) {
                sets.add(set);
            }
        }
        if (!sets.isEmpty()) {
            surely = 0;
            ask = -1;
            int nearest = 1000;
            for (int p = 0; p < now.persons.size(); p++) {
                int in = 0;
                for (int set : sets) {
                    in += set >> p & 1;
                }
                if (in == sets.size()) {
                    surely |= 1 << p;
                }
                if (Math.abs(in - (sets.size() - in)) < nearest) {
                    nearest = Math.abs(in - (sets.size() - in));
                    ask = p;
                }
            }
        }
        return sets.size();
    }

    int surely() {
        return surely;
    }

    int ask() {
        return ask;
    }

    int let(int q) {
        if (!isQ(q)) {
            return -1;
        }
        All c = now.copy();
        int n = 0;
        while (c.is(q) != -1) {
            int i = c.is(q);
            c.parcels.get(q).much[i] = Math.max(0, c.parcels.get(q).much[i] - c.guess);
            n++;
        }
        return n;
    }

    int rooms() {
        int n = now.parcels.size();
        int[] best = new int[0];
        int least = 0;
        // All ways in the order of the first, counted as numbers in base n.
        int ways = (int) Math.pow(n, n);
        for (int way = 0; way < ways; way++) {
            int[] in = new int[n];
            int rest = way;
            int used = 0;
            for (int q = n - 1; q >= 0; q--) {
                in[q] = rest % n;
                rest /= n;
                used = Math.max(used, in[q] + 1);
            }
            if ((best.length == 0 || used < least) && quiet(in)) {
                best = in;
                least = used;
            }
        }
        roomOf = best;
        return n == 0 ? 0 : least;
    }

    private boolean quiet(int[] in) {
        for (int q = 0; q < in.length; q++) {
            for (int r = 0; r < q; r++) {
                Set<Integer> two = new HashSet<>(Arrays.asList(now.is(q), now.is(r)));
                if (in[q] == in[r] && now.quarrels.contains(two)) {
                    return false;
                }
            }
        }
        return true;
    }

    int roomOf(int q) {
        return q >= 0 && q < roomOf.length ? roomOf[q] : -1;
    }

    int rest() {
        All c = now.copy();
        int rounds = 0;
        boolean changes = true;
        while (changes && rounds < 10) {
            changes = false;
            rounds++;
            for (int p = 0; p < c.persons.size(); p++) {
                int[] worth = new int[c.parcels.size()];
                int top = -1;
                for (int q = 0; q < worth.length; q++) {
                    worth[q] = c.parcels.get(q).open ? -1 : worth(c, p, q);
                    top = Math.max(top, worth[q]);
                }
                int to = c.persons.get(p).seat;
                if (top >= 0 && (to == -1 || worth[to] != top)) {
                    to = 0;
                    while (worth[to] != top) {
                        to++;
                    }
                    c.persons.get(p).seat = to;
                    changes = true;
                }
            }
        }
        rested = new int[c.persons.size()];
        for (int p = 0; p < rested.length; p++) {
            rested[p] = c.persons.get(p).seat;
        }
        return rounds;
    }

    private static int worth(All from, int p, int q) {
        All c = from.copy();
        c.persons.get(p).seat = q;
        for (int d = 0; d < 7; d++) {
            c.goDay();
        }
        int wish = c.persons.get(p).wish;
        return c.is(q) == wish ? c.parcels.get(q).much[wish] : 0;
    }

    int rested(int p) {
        return p >= 0 && p < rested.length ? rested[p] : -1;
    }

    int greatest() {
        int best = -1;
        for (int q = 0; q < now.parcels.size(); q++) {
            if (!now.parcels.get(q).open && (best == -1 || now.size(q) > now.size(best))) {
                best = q;
            }
        }
        return best;
    }

    int tag(int q) {
        if (!isQ(q)) {
            return -1;
        }
        int is = now.is(q);
        tag = now.parcels.get(q).name + " is " + (is == -1 ? "nothing" : now.ideaNames.get(is))
                + (now.parcels.get(q).open ? " at last" : "");
        return tag.length();
    }

    int byteAt(int i) {
        return i >= 0 && i < tag.length() ? tag.charAt(i) : -1;
    }

    int drawn(int n, int seed) {
        if (n < 1 || n > 60 || now.persons.isEmpty()) {
            return -1;
        }
        All before = now.copy();
        int went = now.draws(n, seed);
        if (went > 0) {
            kept(before);
        }
        return went;
    }

    int odds(int q, int i, int n, int seed) {
        if (!isQ(q) || !isI(i) || n < 1 || n > 30) {
            return -1;
        }
        int found = 0;
        for (int k = 0; k < n; k++) {
            All c = now.copy();
            c.draws(20, seed + k);
            found += c.is(q) == i ? 1 : 0;
        }
        return found;
    }

    // ---- book

    int book(int lives) {
        if (lives != 0 && lives != 1) {
            return -1000;
        }
        Deque<Token> all = tokens(400);
        boolean tooLong = tape.length > 400;
        tape = new byte[0];
        List<Step> steps = new ArrayList<>();
        try {
            while (all.peek().type != 'e') {
                steps.add(bookLine(all, steps.size()));
                next(all, ';');
            }
            if (tooLong) {
                throw new Fault(1, 400);
            }
        } catch (Fault f) {
            fault = f.kind;
            return -2 - f.place;
        }
        fault = 0;
        All c = now.copy();
        int line = 0;
        int why = 0;
        while (line < steps.size() && why == 0) {
            why = live(c, steps.get(line));
            line += why == 0 ? 1 : 0;
        }
        told = new int[] {why, line, c.day, nothings(c)};
        if (lives == 1) {
            kept(now);
            now = c;
        }
        return why == 0 ? -1 : line;
    }

    private Step bookLine(Deque<Token> all, int lines) throws Fault {
        Token first = next(all, 'w');
        boolean keyword = KEYWORDS.contains(first.text);
        if (keyword && !Arrays.asList("open", "carry", "day").contains(first.text)) {
            throw new Fault(1, first.place);
        }
        if (!keyword && (!now.names.containsKey(first.text) || now.names.get(first.text).sort != 'p')) {
            throw new Fault(3, first.place);
        }
        limit(lines, 40, first);
        if (!keyword) {
            int p = now.names.get(first.text).number;
            Token verb = next(all, 'w');
            return switch (verb.text) {
                case "joins" -> new Step("joins", p, known(all, now, 'q'));
                case "stands" -> new Step("stands", p, 0);
                case "wishes" -> new Step("wishes", p, known(all, now, 'i'));
                case "guesses" -> new Step("guesses", p, known(all, now, 'i'));
                default -> throw new Fault(1, verb.place);
            };
        }
        if (first.text.equals("day")) {
            return new Step("day", number(all, 1, 60), 0);
        }
        int q = known(all, now, 'q');
        return new Step(first.text, q, first.text.equals("carry") ? known(all, now, 'r') : 0);
    }

    private static int live(All c, Step s) {
        switch (s.what) {
            case "joins":
                return c.whySit(s.a, s.b) == 0 ? 0 : 1;
            case "stands":
                return c.whyStand(s.a) == 0 ? 0 : 11;
            case "wishes":
                return c.whyWish(s.a, s.b) == 0 ? 0 : 21;
            case "guesses":
                int got = c.guessed(s.a, s.b);
                return got >= 0 ? 0 : got == -2 ? 31 : 32;
            case "open":
                return c.whyOpen(s.a) == 0 ? 0 : 41;
            case "carry":
                int why = c.whyCarry(s.a, s.b);
                return why == 0 ? 0 : 50 + why;
            default:
                if (c.day + s.a > 400) {
                    return 61;
                }
                for (int d = 0; d < s.a; d++) {
                    c.goDay();
                }
                return 0;
        }
    }

    int told(int what) {
        return what < 0 || what > 3 ? -1 : told[what];
    }

    // ---- sentence

    private int ones;

    int sentence() {
        Deque<Token> all = tokens(200);
        boolean tooLong = tape.length > 200;
        tape = new byte[0];
        ones = 0;
        try {
            BiPredicate<All, Integer> holds = cond(all, 1);
            next(all, 'e');
            if (tooLong) {
                throw new Fault(1, 200);
            }
            fault = 0;
            said = new Said(holds);
            return ones;
        } catch (Fault f) {
            fault = f.kind;
            return -1 - f.place;
        }
    }

    private BiPredicate<All, Integer> cond(Deque<Token> all, int depth) throws Fault {
        BiPredicate<All, Integer> holds = together(all, depth);
        while (all.peek().text.equals("or")) {
            all.poll();
            holds = holds.or(together(all, depth));
        }
        return holds;
    }

    private BiPredicate<All, Integer> together(Deque<Token> all, int depth) throws Fault {
        BiPredicate<All, Integer> holds = one(all, depth);
        while (all.peek().text.equals("and")) {
            all.poll();
            holds = holds.and(one(all, depth));
        }
        return holds;
    }

    private BiPredicate<All, Integer> one(Deque<Token> all, int depth) throws Fault {
        Token first = next0(all);
        if (!Arrays.asList("not", "(", "opened", "nothing", "watched", "is", "in", "size", "bulge", "turned", "number")
                .contains(first.text)) {
            throw new Fault(1, first.place);
        }
        if (ones == 20 || depth == 9) {
            throw new Fault(4, first.place);
        }
        ones++;
        switch (first.text) {
            case "not":
                return one(all, depth + 1).negate();
            case "(":
                BiPredicate<All, Integer> inner = cond(all, depth + 1);
                word(all, ")");
                return inner;
            case "opened":
                return (a, q) -> a.parcels.get(q).open;
            case "nothing":
                return (a, q) -> a.is(q) == -1;
            case "watched":
                return (a, q) -> a.watched(q);
            case "is":
                int i = known(all, now, 'i');
                return (a, q) -> a.is(q) == i;
            case "in":
                int r = known(all, now, 'r');
                return (a, q) -> a.parcels.get(q).room == r;
            default:
                Token sign = next0(all);
                if (!Arrays.asList("<", "=", ">").contains(sign.text)) {
                    throw new Fault(1, sign.place);
                }
                int n = number(all, 0, 999);
                return (a, q) -> {
                    int has = switch (first.text) {
                        case "size" -> a.size(q);
                        case "bulge" -> a.parcels.get(q).bulge;
                        case "turned" -> a.parcels.get(q).turned;
                        default -> q;
                    };
                    return sign.text.equals("<") ? has < n : sign.text.equals("=") ? has == n : has > n;
                };
        }
    }

    int said(int k) {
        if (said == null) {
            return -1;
        }
        List<Integer> which = new ArrayList<>();
        for (int q = 0; q < now.parcels.size(); q++) {
            if (said.holds.test(now, q)) {
                which.add(q);
            }
        }
        if (k == -1) {
            return which.size();
        }
        return k >= 0 && k < which.size() ? which.get(k) : -1;
    }

    boolean image(int k) {
        if (k != 0 && k != 1) {
            return false;
        }
        images[k] = new Kept(now.copy(), said);
        return true;
    }

    boolean restore(int k) {
        if (k != 0 && k != 1 || images[k] == null) {
            return false;
        }
        now = images[k].all.copy();
        said = images[k].said;
        undo.clear();
        return true;
    }

    int count(int what) {
        return what < 0 || what > 6 ? -1 : new int[] {now.need.size(), now.rooms, now.parcels.size(),
            now.persons.size(), now.leak, now.guess, tape.length}[what];
    }
}
