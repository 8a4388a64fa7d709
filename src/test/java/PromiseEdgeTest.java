import java.util.function.IntUnaryOperator;

/** Promises 1 to 42: each sentence that names an edge, a wrong input or a refused call, one by one. */
public final class PromiseEdgeTest {
    private static final int LEAST = Integer.MIN_VALUE;
    private static final int MOST = Integer.MAX_VALUE;

    /** Ideas a, b, c; rooms r, s; parcels k, l, m, n; persons p, o, t, u, v: of no two sorts as many. */
    private static final String POST = "idea a 3;idea b 4;idea c 5;room r;room s;parcel k r;parcel l r;parcel m s;parcel n s;"
            + "person p a 1;person o b 2;person t c 3;person u a 4;person v b 5;sits p k;sits o k;sits t l;has m c 7;leak 1;guess 2;";
    private static final int IDEAS = 3;
    private static final int ROOMS = 2;
    private static final int PARCELS = 4;
    private static final int PERSONS = 5;

    public static void main(String[] args) {
        newObject();
        feed();
        end();
        post();
        fault();
        much();
        parcel();
        person();
        needAndQuarrels();
        now();
        sitStandWish();
        guess();
        openAndCarry();
        days();
        undo();
        undoEach();
        undoOnlyWhatWasDone();
        when();
        sitters();
        sitting();
        sat();
        surelyAndAsk();
        let();
        roomsAndRoomOf();
        restAndRested();
        greatest();
        tagAndByteAt();
        drawn();
        odds();
        book();
        told();
        sentence();
        said();
        images();
        restoredWhole();
        count();
        Check.end("PromiseEdgeTest");
    }

    private static WonderParcels made() {
        return DayEdgeTest.made(POST);
    }

    /** A call of which numbers below 0 and from so many on are refused, in a post with the most there may be, too. */
    private static void refused(String call, int many, int due, IntUnaryOperator asked) {
        for (int k : new int[] {LEAST, LEAST + 1, -256, -2, -1, many, many + 1, 8, 9, 255, 256, MOST - 1, MOST}) {
            Check.is(call + " of " + k, asked.applyAsInt(k), due);
        }
    }

    /** 1: "An empty POST; an empty tape." */
    private static void newObject() {
        WonderParcels x = new WonderParcels();
        int[] counts = {0, 0, 0, 0, 0, 5, 0};
        for (int what = 0; what < counts.length; what++) {
            Check.is("count(" + what + ")", x.count(what), counts[what]);
            Check.is("now(" + what + ")", x.now(what), 0);
        }
        Check.is("much", x.much(0, 0), -1);
        Check.is("parcel", Check.parcel(x, 0, 0), -99);
        Check.is("person", Check.person(x, 0, 0), -99);
        Check.is("need", x.need(0), -1);
        Check.is("quarrels", x.quarrels(0), -1);
        Check.is("sit", x.sit(0, 0), -1);
        Check.is("stand", x.stand(0), -1);
        Check.is("wish", x.wish(0, 0), -1);
        Check.is("guess", x.guess(0, 0), -1);
        Check.is("open", x.open(0), -1);
        Check.is("carry", x.carry(0, 0), -1);
        Check.is("undo", x.undo(), -1);
        Check.is("when", x.when(0, 0), -1);
        Check.is("sitters", x.sitters(0, 0, 1), -1);
        Check.is("sat", Check.sat(x, 0, 1, 255, 0), -1);
        Check.is("let", x.let(0), -1);
        Check.is("rooms", x.rooms(), 0);
        Check.is("rest", x.rest(), 1);
        Check.is("greatest", x.greatest(), -1);
        Check.is("tag", x.tag(0), -1);
        Check.is("drawn", x.drawn(1, 1), -1);
        Check.is("odds", x.odds(0, 0, 1, 1), -1);
        Check.is("an empty book", x.book(1), -1);
        Check.is("no sentence on an empty tape", x.sentence(), -1);
        Check.is("days go", x.days(60), 60);
        Check.is("an empty post", x.post(), 0);
        Check.is("day 0", x.now(0), 0);
    }

    /** 2: "of each number the highest first"; "NONE, and none come, if it would have more than 940". */
    private static void feed() {
        WonderParcels x = new WonderParcels();
        x.feed(0x726f6f6d, 0x20616263, 0x64656667, 0x3b726f6f, 0x6d20623b);
        Check.is("'room abcdefg;room b;'", x.post(), 2);
        for (int n = 1; n <= 47; n++) {
            Check.is("feed", x.feed(-1, 0, MOST, LEAST, n), 20 * n);
        }
        Check.is("a 48th", x.feed(1, 1, 1, 1, 1), -1);
        Check.is("none came", x.count(6), 940);
        for (int bytes = 921; bytes < 940; bytes++) {
            x.end(0);
            Check.tape(x, new byte[bytes]);
            Check.is(bytes + " and 20", x.feed(1, 1, 1, 1, 1), -1);
            Check.is("none came", x.count(6), bytes);
        }
        x.end(920);
        Check.is("920 and 20", x.feed(1, 1, 1, 1, 1), 940);
        x.end(1);
        Check.is("1 and 20", x.feed(1, 1, 1, 1, 1), 21);
    }

    /** 3: "true; false, if it has not so many, or n is below 0". */
    private static void end() {
        WonderParcels x = new WonderParcels();
        x.feed(0, 0, 0, 0, 0);
        for (int n : new int[] {LEAST, -20, -1, 21, 940, MOST}) {
            Check.is("end(" + n + ")", x.end(n), false);
            Check.is("it stays", x.count(6), 20);
        }
        for (int n = 20; n >= 0; n--) {
            Check.is("end(" + n + ")", x.end(n), true);
            Check.is("so many", x.count(6), n);
            Check.is("one more", x.end(n + 1), false);
        }
        Check.is("end(0) of none", x.end(0), true);
        // Its first bytes, not its last.
        Check.tape(x, "room a;room b;?");
        x.end(14);
        Check.is("both", x.post(), 2);
        Check.tape(x, "room a;room b;?");
        x.end(7);
        Check.is("the first", x.post(), 1);
    }

    /** 4: "how many LINES; -1 less the place of a FAULT: it stays"; "The tape (empty then, here and below)". */
    private static void post() {
        WonderParcels x = made();
        Check.is("empty then", x.count(6), 0);
        Check.is("a fault at 0", Check.post(x, "?"), -1);
        Check.is("a fault at 5", Check.post(x, "room ?"), -6);
        Check.is("empty then", x.count(6), 0);
        Check.is("a fault at 900", Check.post(x, " ".repeat(901)), -901);
        Check.is("it stays", x.count(2), PARCELS);
        Check.is("what it has stays", x.much(2, 2), 7);
        Check.is("who sits stays", x.now(3), 3);
        Check.is("an empty one", Check.post(x, ""), 0);
        Check.is("is the post now", x.count(2), 0);
        Check.is("one line", Check.post(x, "leak 1;"), 1);
    }

    /** 5: "(a book() of -1000 leaves it); 0 without one and ahead of any". */
    private static void fault() {
        WonderParcels x = new WonderParcels();
        Check.is("ahead of any", x.fault(), 0);
        Check.post(x, "room a;room a;");
        Check.is("post", x.fault(), 3);
        x.book(2);
        x.book(-1);
        Check.is("-1000 leaves it", x.fault(), 3);
        x.sat();
        x.undo();
        x.days(1);
        x.restore(0);
        Check.is("others leave it", x.fault(), 3);
        Check.book(x, "day 0;", 0);
        Check.is("book", x.fault(), 2);
        Check.sentence(x, "?");
        Check.is("sentence", x.fault(), 1);
        Check.post(x, "room a;room b;room c;room d;room e;");
        Check.is("post", x.fault(), 4);
        Check.book(x, "", 1);
        Check.is("a book without", x.fault(), 0);
        Check.sentence(x, "is a");
        Check.is("sentence", x.fault(), 3);
        Check.sentence(x, "opened");
        Check.is("a sentence without", x.fault(), 0);
        Check.book(x, "?", 1);
        Check.is("book", x.fault(), 1);
        Check.post(x, "");
        Check.is("a post without", x.fault(), 0);
        // A book that is wrong has no fault.
        Check.post(x, POST);
        Check.is("wrong", Check.book(x, "v stands;", 0), 0);
        Check.is("no fault", x.fault(), 0);
    }

    /** 6: "NONE: no such ones." */
    private static void much() {
        WonderParcels x = made();
        refused("much(k, 0)", PARCELS, -1, k -> x.much(k, 0));
        refused("much(0, k)", IDEAS, -1, k -> x.much(0, k));
        Check.is("the last", x.much(PARCELS - 1, IDEAS - 1), 0);
        WonderParcels y = DayEdgeTest.made(TextEdgeTest.FULL + "has p f 9;");
        Check.is("the last of most", y.much(5, 5), 9);
        refused("much(k, 0) of most", 6, -1, k -> y.much(k, 0));
        refused("much(0, k) of most", 6, -1, k -> y.much(0, k));
    }

    /** 7: "NoSuchElementException: no such ones." */
    private static void parcel() {
        WonderParcels x = made();
        for (int what = 0; what <= 6; what++) {
            int w = what;
            refused("parcel(k, " + what + ")", PARCELS, -99, k -> Check.parcel(x, k, w));
        }
        refused("parcel(0, k)", 7, -99, k -> Check.parcel(x, 0, k));
        int[][] due = {{-1, 0, 0, 0, 0, 0, 3}, {-1, 0, 0, 0, 0, 0, 4}, {2, 1, 7, 0, 0, 0, 0}, {-1, 1, 0, 0, 0, 0, 0}};
        for (int q = 0; q < PARCELS; q++) {
            for (int what = 0; what <= 6; what++) {
                Check.is("parcel(" + q + ", " + what + ")", x.parcel(q, what), due[q][what]);
            }
        }
        WonderParcels y = DayEdgeTest.made(TextEdgeTest.FULL);
        refused("parcel(k, 0) of most", 6, -99, k -> Check.parcel(y, k, 0));
    }

    /** 8: "by which PARCEL he sits (NONE)"; "NoSuchElementException: no such ones." */
    private static void person() {
        WonderParcels x = made();
        for (int what = 0; what <= 4; what++) {
            int w = what;
            refused("person(k, " + what + ")", PERSONS, -99, k -> Check.person(x, k, w));
        }
        refused("person(0, k)", 5, -99, k -> Check.person(x, 0, k));
        int[][] due = {{0, 1, 0, 0, 0}, {1, 2, 0, 0, 0}, {2, 3, 1, 0, 0}, {0, 4, -1, 0, 0}, {1, 5, -1, 0, 0}};
        for (int p = 0; p < PERSONS; p++) {
            for (int what = 0; what <= 4; what++) {
                Check.is("person(" + p + ", " + what + ")", x.person(p, what), due[p][what]);
            }
        }
        WonderParcels y = DayEdgeTest.made(TextEdgeTest.FULL);
        refused("person(k, 0) of most", 8, -99, k -> Check.person(y, k, 0));
    }

    /** 9, 10: "NONE: no such one." */
    private static void needAndQuarrels() {
        WonderParcels x = made();
        refused("need", IDEAS, -1, x::need);
        refused("quarrels", IDEAS, -1, x::quarrels);
        WonderParcels y = DayEdgeTest.made(TextEdgeTest.FULL + "quarrel a f;quarrel f c;");
        refused("need of most", 6, -1, y::need);
        refused("quarrels of most", 6, -1, y::quarrels);
        int[] due = {32, 0, 32, 0, 0, 5};
        for (int i = 0; i < 6; i++) {
            Check.is("quarrels(" + i + ")", y.quarrels(i), due[i]);
        }
    }

    /** 11: "NONE for another what." */
    private static void now() {
        WonderParcels x = made();
        refused("now", 7, -1, x::now);
        int[] due = {0, 0, 11, 3, 7, 0, 0};
        for (int what = 0; what < due.length; what++) {
            Check.is("now(" + what + ")", x.now(what), due[what]);
        }
        for (int q = 0; q < PARCELS; q++) {
            x.open(q);
        }
        Check.is("all are open", x.now(1), 15);
    }

    /** 12, 13, 14: "0, or why not; NONE: no such ones." */
    private static void sitStandWish() {
        WonderParcels x = made();
        refused("sit(k, 0)", PERSONS, -1, k -> x.sit(k, 0));
        refused("sit(0, k)", PARCELS, -1, k -> x.sit(0, k));
        refused("stand", PERSONS, -1, x::stand);
        refused("wish(k, 0)", PERSONS, -1, k -> x.wish(k, 0));
        refused("wish(0, k)", IDEAS, -1, k -> x.wish(0, k));
        Check.is("nothing was done", x.undo(), -1);
        Check.is("the last by the last", x.sit(PERSONS - 1, PARCELS - 1), 0);
        Check.is("he sits by it", x.sit(PERSONS - 1, PARCELS - 1), 1);
        Check.is("stands", x.stand(PERSONS - 1), 0);
        Check.is("he sits by none", x.stand(PERSONS - 1), 1);
        Check.is("wishes the last", x.wish(PERSONS - 1, IDEAS - 1), 0);
        Check.is("he does", x.wish(PERSONS - 1, IDEAS - 1), 1);
    }

    /** 15: "1 right, 0 wrong; -2, -3: 1, 2 why not; NONE: no such ones." */
    private static void guess() {
        WonderParcels x = made();
        refused("guess(k, 0)", PERSONS, -1, k -> x.guess(k, 0));
        refused("guess(0, k)", IDEAS, -1, k -> x.guess(0, k));
        refused("guess(4, k), who stands", IDEAS, -1, k -> x.guess(4, k));
        Check.is("he sits by none", x.guess(4, 0), -2);
        x.sit(4, 2);
        Check.is("wrong", x.guess(4, 0), 0);
        Check.is("right", x.guess(4, 2), 1);
        x.open(2);
        Check.is("it is open", x.guess(4, 2), -3);
    }

    /** 16, 17: "0, or why not; NONE: no such one." */
    private static void openAndCarry() {
        WonderParcels x = made();
        refused("open", PARCELS, -1, x::open);
        refused("carry(k, 0)", PARCELS, -1, k -> x.carry(k, 0));
        refused("carry(0, k)", ROOMS, -1, k -> x.carry(0, k));
        Check.is("the last room", x.carry(0, ROOMS - 1), 0);
        Check.is("it is there", x.carry(0, ROOMS - 1), 2);
        Check.is("the last parcel", x.open(PARCELS - 1), 0);
        Check.is("it is open", x.open(PARCELS - 1), 1);
        Check.is("it is open", x.carry(PARCELS - 1, 0), 1);
        refused("carry(3, k), which is open", ROOMS, -1, k -> x.carry(3, k));
    }

    /** 18: "n (1 to 60) DAYS go by: how many did; NONE: not as told." */
    private static void days() {
        WonderParcels x = made();
        for (int n : new int[] {LEAST, -1, 0, 61, 400, MOST}) {
            Check.is("days(" + n + ")", x.days(n), -1);
        }
        Check.is("no day went", x.now(0), 0);
        Check.is("one", x.days(1), 1);
        Check.is("sixty", x.days(60), 60);
        Check.is("61", x.now(0), 61);
        DayEdgeTest.toDay(x, 341);
        Check.is("59 are left", x.days(60), 59);
        Check.is("400", x.now(0), 400);
        Check.is("none is left", x.days(60), 0);
        Check.is("not as told", x.days(61), -1);
    }

    /** 19: "how many more can be (8 at most are kept); NONE: none is". */
    private static void undo() {
        WonderParcels x = made();
        for (int n = 1; n <= 30; n++) {
            x.days(1);
            // What is refused is not kept, nor does it cost what is.
            x.stand(4);
            x.wish(0, 0);
            x.sit(0, 0);
            x.carry(0, 0);
        }
        for (int left = 7; left >= 0; left--) {
            Check.is("undo", x.undo(), left);
            Check.is("the day", x.now(0), 22 + left);
        }
        Check.is("none is", x.undo(), -1);
        Check.is("the day", x.now(0), 22);
        Check.is("an act", x.stand(0), 0);
        Check.is("one can be", x.undo(), 0);
        Check.is("he sits", x.person(0, 2), 0);
        Check.is("none is", x.undo(), -1);
        // Undone and done otherwise, over and over.
        for (int n = 0; n < 20; n++) {
            x.days(2);
            x.days(3);
            Check.is("undo", x.undo(), Math.min(7, n + 1));
        }
        Check.is("the day", x.now(0), 62);
        for (int left = 7; left >= 1; left--) {
            Check.is("undo", x.undo(), left - 1);
        }
        Check.is("none is: the eighth was undone before", x.undo(), -1);
        Check.is("the day", x.now(0), 48);
    }

    /** 19: each act that can be undone gives back all that it changed. */
    private static void undoEach() {
        WonderParcels x = made();
        x.days(5);
        String before = all(x);
        x.sit(4, 0);
        undoneTo(x, before, "sit");
        x.stand(0);
        undoneTo(x, before, "stand");
        x.wish(0, 2);
        undoneTo(x, before, "wish");
        Check.is("right", x.guess(0, x.parcel(0, 0)), 1);
        undoneTo(x, before, "guess, right");
        Check.is("wrong", x.guess(0, 2), 0);
        undoneTo(x, before, "guess, wrong");
        x.open(0);
        undoneTo(x, before, "open");
        x.carry(0, 1);
        undoneTo(x, before, "carry");
        x.days(60);
        undoneTo(x, before, "days");
        x.drawn(60, 3);
        undoneTo(x, before, "drawn");
        Check.book(x, "p stands;p wishes c;open m;carry l s;t guesses a;day 9;", 1);
        undoneTo(x, before, "book");
        Check.book(x, "p stands;day 9;p stands;", 1);
        undoneTo(x, before, "book, wrong");
    }

    private static void undoneTo(WonderParcels x, String before, String act) {
        Check.is(act + " changed something", all(x).equals(before), false);
        Check.is("undo of " + act, x.undo(), 1);
        Check.is("all behind undo of " + act, all(x), before);
        Check.is("still there", x.days(5), 5);
        Check.is("undo of days", x.undo(), 1);
        Check.is("all behind undo of days", all(x), before);
    }

    /** All that can be asked of a post. */
    private static String all(WonderParcels x) {
        StringBuilder text = new StringBuilder();
        for (int what = 0; what < 6; what++) {
            text.append(x.count(what)).append(' ').append(x.now(what)).append(' ');
        }
        for (int q = 0; q < x.count(2); q++) {
            for (int what = 0; what <= 6; what++) {
                text.append(x.parcel(q, what)).append(' ');
            }
            for (int i = 0; i < x.count(0); i++) {
                text.append(x.much(q, i)).append(' ');
            }
        }
        for (int p = 0; p < x.count(3); p++) {
            for (int what = 0; what <= 4; what++) {
                text.append(x.person(p, what)).append(' ');
            }
        }
        return text.append(x.said(-1)).toString();
    }

    /** 19: "days() above 0, drawn() above 0, a BOOK that was lived". */
    private static void undoOnlyWhatWasDone() {
        WonderParcels x = made();
        x.days(0);
        x.drawn(61, 1);
        Check.book(x, "day 1;", 0);
        Check.book(x, "day 1", 1);
        x.book(2);
        Check.is("nothing was done", x.undo(), -1);
        DayEdgeTest.toDay(x, 400);
        Check.is("seven times days", x.undo(), 6);
        x.days(60);
        Check.is("none is left", x.days(1), 0);
        Check.is("none is left", x.drawn(1, 1), 0);
        Check.is("the days are undone", x.undo(), 6);
        Check.is("the day", x.now(0), 360);
    }

    /** 20: "NONE: not so soon, fewer are left, no such ones." */
    private static void when() {
        WonderParcels x = made();
        refused("when(k, 0)", PARCELS, -1, k -> x.when(k, 0));
        refused("when(0, k)", IDEAS, -1, k -> x.when(0, k));
        Check.is("b by o", x.when(0, 1), 2);
        Check.is("not so soon", x.when(3, 0), -1);
        WonderParcels y = DayEdgeTest.made("idea a 5;room r;parcel k r;person p a 1;");
        DayEdgeTest.toDay(y, 395);
        y.sit(0, 0);
        Check.is("five are left", y.when(0, 0), 5);
        y.stand(0);
        y.days(1);
        y.sit(0, 0);
        Check.is("fewer are left", y.when(0, 0), -1);
        y.days(4);
        Check.is("none is left", y.when(0, 0), -1);
        y.guess(0, 0);
        Check.is("it is now", y.when(0, 0), 0);
    }

    /** 21: "NONE: by none, fewer DAYS are left, it is open, no such ones." */
    private static void sitters() {
        WonderParcels x = made();
        refused("sitters(k, 0, 1)", PARCELS, -1, k -> x.sitters(k, 0, 1));
        refused("sitters(0, k, 1)", IDEAS, -1, k -> x.sitters(0, k, 1));
        for (int k : new int[] {LEAST, -1, 0, 31, 60, MOST}) {
            Check.is("sitters of " + k + " days", x.sitters(2, 2, k), -1);
        }
        Check.is("1 day", x.sitters(2, 2, 1), 0);
        Check.is("30 days", x.sitters(2, 2, 30), 0);
        Check.is("by none: c is 7, a 5 at most", x.sitters(2, 0, 1), -1);
        DayEdgeTest.toDay(x, 390);
        Check.is("ten are left", x.sitters(2, 2, 10), 0);
        Check.is("fewer are left", x.sitters(2, 2, 11), -1);
        x.open(2);
        Check.is("it is open", x.sitters(2, 2, 10), -1);
        DayEdgeTest.toDay(x, 400);
        Check.is("none is left", x.sitters(3, 0, 1), -1);
    }

    /** 22: "by the latest sitters() that was not NONE; NONE ahead of any". */
    private static void sitting() {
        WonderParcels x = made();
        Check.is("ahead of any", x.sitting(), -1);
        x.sitters(0, 0, 0);
        Check.is("ahead of any that was not NONE", x.sitting(), -1);
        Check.is("c on k by t", x.sitters(0, 2, 2), 1);
        Check.is("t", x.sitting(), 4);
        x.sitters(9, 9, 9);
        x.sitters(2, 0, 1);
        x.days(3);
        x.undo();
        Check.is("t still", x.sitting(), 4);
        Check.is("c on m by none", x.sitters(2, 2, 1), 0);
        Check.is("nobody", x.sitting(), 0);
    }

    /** 23: "how many sets; NONE: not as told, the PARCEL is open". */
    private static void sat() {
        WonderParcels x = made();
        Check.is("no tape", x.sat(), -1);
        Check.is("no such parcel", Check.sat(x, PARCELS, 1, 255, 0), -1);
        Check.is("the last parcel", Check.sat(x, PARCELS - 1, 1, 255, 0) > 0, true);
        Check.is("no such idea", Check.sat(x, 0, 1, IDEAS, 0), -1);
        Check.is("the last idea", Check.sat(x, 0, 2, IDEAS - 1, 0), 1);
        Check.is("no days", Check.sat(x, 0, 0, 255, 0), -1);
        Check.is("31 days", Check.sat(x, 0, 31, 255, 0), -1);
        x.open(0);
        Check.is("open", Check.sat(x, 0, 1, 255, 0), -1);
        x.undo();
        Check.is("not any more", Check.sat(x, 0, 1, 255, 0) > 0, true);
        DayEdgeTest.toDay(x, 400);
        Check.is("whatever day it is", Check.sat(x, 3, 30, 255, 0), 1);
    }

    /** 24, 25: "NONE ahead of any"; "(as it was then); NONE: there were no PERSONS, or ahead of any". */
    private static void surelyAndAsk() {
        WonderParcels x = made();
        Check.is("surely ahead of any", x.surely(), -1);
        Check.is("ask ahead of any", x.ask(), -1);
        Check.is("no set", Check.sat(x, 0, 1, 0, 9), 0);
        Check.is("not as told", Check.sat(x, 0, 0, 0, 0), -1);
        Check.is("surely ahead of any above 0", x.surely(), -1);
        Check.is("ask ahead of any above 0", x.ask(), -1);
        // c in two days without bulges: t alone.
        Check.is("t", Check.sat(x, 0, 2, 2, 0), 1);
        Check.is("surely t", x.surely(), 4);
        Check.is("all as far from half", x.ask(), 0);
        Check.is("a new post", Check.post(x, "idea a 1;room r;parcel k r;"), 3);
        Check.is("surely as it was then", x.surely(), 4);
        Check.is("ask as it was then", x.ask(), 0);
        Check.is("no persons", Check.sat(x, 0, 1, 255, 0), 1);
        Check.is("surely nobody", x.surely(), 0);
        Check.is("there were no persons", x.ask(), -1);
        Check.is("the old post", Check.post(x, POST) > 0, true);
        Check.is("there were no persons then", x.ask(), -1);
    }

    /** 26: "NONE: no such one." */
    private static void let() {
        WonderParcels x = made();
        refused("let", PARCELS, -1, x::let);
        Check.is("7 to 5 to 3", x.let(2), 2);
        Check.is("it is nothing", x.let(3), 0);
    }

    /** 27, 28: "NONE: no such one, or ahead of any". */
    private static void roomsAndRoomOf() {
        WonderParcels x = made();
        refused("roomOf ahead of any", 0, -1, x::roomOf);
        for (int q = 0; q < PARCELS; q++) {
            Check.is("roomOf ahead of any", x.roomOf(q), -1);
        }
        Check.is("rooms", x.rooms(), 1);
        refused("roomOf", PARCELS, -1, x::roomOf);
        for (int q = 0; q < PARCELS; q++) {
            Check.is("roomOf(" + q + ")", x.roomOf(q), 0);
        }
        Check.is("they are where they were", x.parcel(3, 1), 1);
        WonderParcels y = DayEdgeTest.made(TextEdgeTest.FULL + "has k a 9;has p b 9;quarrel b a;");
        Check.is("rooms of most", y.rooms(), 2);
        Check.is("the first", y.roomOf(0), 0);
        Check.is("the last", y.roomOf(5), 1);
        refused("roomOf of most", 6, -1, y::roomOf);
        // By the latest rooms(), not by what is so now.
        y.sit(0, 5);
        y.guess(0, 1);
        y.guess(0, 1);
        Check.is("it is nothing now", y.parcel(5, 0), -1);
        Check.is("the latest", y.roomOf(5), 1);
        Check.is("rooms", y.rooms(), 1);
        Check.is("the latest now", y.roomOf(5), 0);
    }

    /** 29, 30: "NONE: by none, no such one, or ahead of any". */
    private static void restAndRested() {
        WonderParcels x = made();
        for (int p = 0; p < PERSONS; p++) {
            Check.is("rested ahead of any", x.rested(p), -1);
        }
        refused("rested ahead of any", PERSONS, -1, x::rested);
        Check.is("rest", x.rest() > 0, true);
        refused("rested", PERSONS, -1, x::rested);
        for (int p = 0; p < PERSONS; p++) {
            Check.is("somewhere", x.rested(p) >= 0 && x.rested(p) < PARCELS, true);
        }
        Check.is("they sit as they did", x.person(4, 2), -1);
        int then = x.rested(4);
        x.sit(4, (then + 1) % PARCELS);
        Check.is("by the latest rest", x.rested(4), then);
        for (int q = 0; q < PARCELS; q++) {
            x.open(q);
        }
        x.stand(4);
        Check.is("all are open", x.rest(), 1);
        Check.is("by none", x.rested(4), -1);
        Check.is("where he sat", x.rested(0), 0);
        WonderParcels y = DayEdgeTest.made(TextEdgeTest.FULL);
        y.rest();
        Check.is("the eighth", y.rested(7) >= 0, true);
        refused("rested of most", 8, -1, y::rested);
    }

    /** 31: "(of like ones the first); NONE: none is". */
    private static void greatest() {
        WonderParcels x = made();
        Check.is("m has 7", x.greatest(), 2);
        x.open(2);
        Check.is("all others have 0: the first", x.greatest(), 0);
        x.open(0);
        Check.is("the next", x.greatest(), 1);
        x.open(1);
        x.open(3);
        Check.is("none is", x.greatest(), -1);
        x.undo();
        Check.is("the last", x.greatest(), 3);
    }

    /** 32, 33: "how many bytes; NONE: no such one"; "NONE: none such". */
    private static void tagAndByteAt() {
        WonderParcels x = made();
        for (int i : new int[] {LEAST, -1, 0, 1, MOST}) {
            Check.is("byteAt ahead of any", x.byteAt(i), -1);
        }
        Check.is("m is c", x.tag(2), 6);
        refused("tag", PARCELS, -1, x::tag);
        refused("byteAt", 6, -1, x::byteAt);
        int[] due = {'m', ' ', 'i', 's', ' ', 'c'};
        for (int i = 0; i < due.length; i++) {
            Check.is("byteAt(" + i + ")", x.byteAt(i), due[i]);
        }
        Check.is("n is nothing", x.tag(3), 12);
        Check.is("the last byte", x.byteAt(11), 'g');
        Check.is("shorter again", x.tag(2), 6);
        Check.is("no byte of the longer one", x.byteAt(6), -1);
        x.open(2);
        Check.is("as it was", x.byteAt(6), -1);
    }

    /** 34: "how many went by; NONE: not as told, no PERSONS". */
    private static void drawn() {
        WonderParcels x = made();
        for (int n : new int[] {LEAST, -1, 0, 61, MOST}) {
            Check.is("drawn(" + n + ", 1)", x.drawn(n, 1), -1);
        }
        Check.is("no day went", x.now(0), 0);
        Check.is("1 day", x.drawn(1, 1), 1);
        Check.is("60 days", x.drawn(60, LEAST), 60);
        Check.is("the day", x.now(0), 61);
        DayEdgeTest.toDay(x, 399);
        Check.is("one is left", x.drawn(60, MOST), 1);
        String then = all(x);
        Check.is("none is left", x.drawn(60, 7), 0);
        Check.is("nothing changes", all(x), then);
        Check.post(x, "idea a 1;room r;parcel k r;");
        Check.is("no persons", x.drawn(1, 1), -1);
        Check.is("no day went", x.now(0), 0);
    }

    /** 35: "n (1 to 30) seeds x, x and 1, .."; "NONE: no such ones". */
    private static void odds() {
        WonderParcels x = made();
        refused("odds(k, ..)", PARCELS, -1, k -> x.odds(k, 0, 1, 1));
        refused("odds(0, k, ..)", IDEAS, -1, k -> x.odds(0, k, 1, 1));
        for (int n : new int[] {LEAST, -1, 0, 31, MOST}) {
            Check.is("odds of " + n + " seeds", x.odds(0, 0, n, 1), -1);
        }
        String then = all(x);
        for (int seed : new int[] {0, -15, MOST - 14, LEAST}) {
            for (int q = 0; q < PARCELS; q++) {
                for (int i = 0; i < IDEAS; i++) {
                    int sum = 0;
                    int each = 0;
                    for (int k = 0; k < 30; k++) {
                        sum += x.odds(q, i, 1, seed + k);
                        WonderParcels y = made();
                        y.drawn(20, seed + k);
                        each += y.parcel(q, 0) == i ? 1 : 0;
                    }
                    Check.is("30 seeds from " + seed, x.odds(q, i, 30, seed), sum);
                    Check.is("as if drawn, from " + seed, sum, each);
                }
            }
        }
        Check.is("nothing changes", all(x), then);
        Check.is("nothing is undone", x.undo(), -1);
    }

    /** 36: "the LINE that is WRONG; NONE: none; -2 less the place of a FAULT; -1000: another lives (the tape stays)". */
    private static void book() {
        WonderParcels x = made();
        String then = all(x);
        Check.tape(x, "day 1;");
        for (int lives : new int[] {LEAST, -1, 2, MOST}) {
            Check.is("book(" + lives + ")", x.book(lives), -1000);
            Check.is("the tape stays", x.count(6), 6);
        }
        Check.is("none is wrong", x.book(0), -1);
        Check.is("the tape is empty then", x.count(6), 0);
        Check.is("all stays as it is", all(x), then);
        Check.is("a fault at 0", Check.book(x, "?", 1), -2);
        Check.is("a fault at 4", Check.book(x, "day 0;", 1), -6);
        Check.is("a fault at 400", Check.book(x, " ".repeat(401), 1), -402);
        Check.is("all stays as it is", all(x), then);
        Check.is("line 0", Check.book(x, "u stands;day 1;", 1), 0);
        Check.is("nothing is lived", all(x), then);
        Check.is("line 2", Check.book(x, "day 1;day 2;u stands;day 4;", 1), 2);
        Check.is("as far as it is not wrong", x.now(0), 3);
        String forty = "day 1;".repeat(39);
        Check.is("line 39", Check.book(x, forty + "u stands;", 0), 39);
        Check.is("none of forty", Check.book(x, forty + "p stands;", 0), -1);
        Check.is("an empty one", Check.book(x, "", 1), -1);
        Check.is("the day stays", x.now(0), 3);
    }

    private static void toldAre(WonderParcels x, int... due) {
        for (int what = 0; what < due.length; what++) {
            Check.is("told(" + what + ")", x.told(what), due[what]);
        }
    }

    /** 37: each why; "61: fewer DAYS are left"; "NONE: another what, or ahead of any". */
    private static void told() {
        WonderParcels x = made();
        toldAre(x, -1, -1, -1, -1);
        Check.book(x, "?", 0);
        x.book(5);
        toldAre(x, -1, -1, -1, -1);
        String[] books = {"p joins k;", "u stands;", "p wishes a;", "u guesses a;", "open k;p guesses a;", "open k;open k;",
            "open k;carry k s;", "carry k r;", "day 1;p guesses c;p guesses c;u guesses c;"};
        int[] why = {1, 11, 21, 31, 32, 41, 51, 52, 31};
        int[] line = {0, 0, 0, 0, 1, 1, 1, 0, 3};
        for (int k = 0; k < books.length; k++) {
            Check.is(books[k], Check.book(x, books[k], 0), line[k]);
            toldAre(x, why[k], line[k], k == 8 ? 1 : 0, 11);
        }
        refused("told", 4, -1, x::told);
        Check.is("not wrong", Check.book(x, "p guesses c;day 60;", 1), -1);
        toldAre(x, 0, 2, 60, 8);
        Check.book(x, "day 0;", 1);
        x.book(-7);
        toldAre(x, 0, 2, 60, 8);
        DayEdgeTest.toDay(x, 399);
        Check.is("the last day", Check.book(x, "day 1;", 0), -1);
        toldAre(x, 0, 1, 400, 8);
        Check.is("fewer are left", Check.book(x, "p stands;day 2;p joins k;", 1), 1);
        toldAre(x, 61, 1, 399, 8);
        Check.is("no day went", x.now(0), 399);
        Check.is("he stood up", x.person(0, 2), -1);
        x.days(1);
        Check.is("none is left", Check.book(x, "day 1;", 1), 0);
        toldAre(x, 61, 0, 400, 8);
    }

    /** 38: "how many ONES (each not, bracket and other one); -1 less the place of a FAULT: it stays". */
    private static void sentence() {
        WonderParcels x = made();
        Check.is("one", Check.sentence(x, "watched"), 1);
        Check.is("a not", Check.sentence(x, "not watched"), 2);
        Check.is("a bracket", Check.sentence(x, "(watched)"), 2);
        Check.is("both", Check.sentence(x, "not(watched)"), 3);
        Check.is("'and', 'or' do not count", Check.sentence(x, "watched and watched or watched"), 3);
        Check.is("the tape is empty then", x.count(6), 0);
        Check.is("k and l", x.said(-1), 2);
        Check.is("a fault at 0", Check.sentence(x, "?"), -1);
        Check.is("a fault at 7", Check.sentence(x, "watched)"), -8);
        Check.is("a fault at 200", Check.sentence(x, "opened" + " ".repeat(195)), -201);
        Check.is("it stays", x.said(-1), 2);
        // A bracket with no 'or' in it joins as a whole.
        Check.is("joined", Check.sentence(x, "not opened and (watched)"), 4);
        Check.is("k and l", x.said(-1), 2);
        Check.is("joined", Check.sentence(x, "not opened and not (not watched and (in r))"), 8);
        Check.is("all", x.said(-1), 4);
        Check.is("joined", Check.sentence(x, "(number=0 or number=3) and (in s or watched and (is c))"), 8);
        Check.is("n alone", x.said(-1) * 10 + x.said(0), 13);
        Check.is("'and' binds more", Check.sentence(x, "number=0 or number=1 and number=2 or number=3"), 4);
        Check.is("k and n", x.said(-1) * 100 + x.said(0) * 10 + x.said(1), 203);
    }

    /** 39: "how many (k NONE), or the k-th. NONE: there is no SENTENCE, none such." */
    private static void said() {
        WonderParcels x = made();
        for (int k : new int[] {LEAST, -2, -1, 0, 1, MOST}) {
            Check.is("no sentence", x.said(k), -1);
        }
        Check.sentence(x, "number>0 and number<3");
        Check.is("how many", x.said(WonderParcels.NONE), 2);
        Check.is("the first", x.said(0), 1);
        Check.is("the next", x.said(1), 2);
        for (int k : new int[] {LEAST, -3, -2, 2, 3, MOST}) {
            Check.is("none such", x.said(k), -1);
        }
        Check.sentence(x, "number>3");
        Check.is("of none", x.said(-1), 0);
        Check.is("none such", x.said(0), -1);
        // The signs at their edges.
        String[] texts = {"size<7", "size=7", "size>7", "size>6", "size<8", "size=0", "size<0", "number<0", "number=3", "number>3", "number>2",
            "bulge=0", "bulge>0", "bulge<1", "turned=0", "turned>0", "turned<1"};
        int[] due = {3, 1, 0, 1, 4, 3, 0, 0, 1, 0, 1, 4, 0, 4, 4, 0, 4};
        for (int k = 0; k < texts.length; k++) {
            Check.sentence(x, texts[k]);
            Check.is(texts[k], x.said(-1), due[k]);
        }
        // As it is at each call.
        Check.sentence(x, "turned=1 and bulge=2");
        Check.is("not yet", x.said(-1), 0);
        x.days(2);
        Check.is("k", x.said(-1) * 10 + x.said(0), 10);
        x.days(1);
        Check.is("not any more", x.said(-1), 0);
    }

    /** 40, 41: "true; false: no such one"; "false: no such one, or nothing is kept there". */
    private static void images() {
        WonderParcels x = made();
        for (int k : new int[] {LEAST, -1, 2, MOST}) {
            Check.is("image(" + k + ")", x.image(k), false);
            Check.is("restore(" + k + ")", x.restore(k), false);
        }
        Check.is("nothing is kept", x.restore(0), false);
        Check.is("nothing is kept", x.restore(1), false);
        x.days(1);
        Check.is("image(1)", x.image(1), true);
        Check.is("nothing is kept in 0", x.restore(0), false);
        Check.is("a refused one leaves what can be undone", x.undo(), 0);
        Check.is("restore(1)", x.restore(1), true);
        Check.is("the day", x.now(0), 1);
        x.days(1);
        x.image(0);
        x.days(1);
        Check.is("restore(1)", x.restore(1), true);
        Check.is("the day", x.now(0), 1);
        Check.is("restore(0)", x.restore(0), true);
        Check.is("the day", x.now(0), 2);
        Check.is("restore(0) again", x.restore(0), true);
        x.days(5);
        Check.is("image(0) again", x.image(0), true);
        x.days(5);
        x.restore(0);
        Check.is("the later one", x.now(0), 7);
    }

    /** 41: "They are as kept in place k (the tape, and what other calls told last, stays; nothing can be undone)". */
    private static void restoredWhole() {
        WonderParcels x = made();
        x.days(3);
        Check.sentence(x, "watched");
        x.image(0);
        String then = all(x);
        Check.post(x, "idea z 9;room y;parcel w y;parcel q y;has w z 9;");
        x.days(7);
        Check.sentence(x, "opened");
        x.sitters(0, 0, 1);
        Check.sat(x, 0, 1, 0, 0);
        x.rooms();
        x.rest();
        x.tag(0);
        Check.book(x, "open q;", 0);
        Check.book(x, "day", 0);
        x.feed(1, 2, 3, 4, 5);
        x.open(1);
        Check.is("restore", x.restore(0), true);
        Check.is("all as kept", all(x), then);
        Check.is("nothing can be undone", x.undo(), -1);
        Check.is("the tape", x.count(6), 20);
        Check.is("fault", x.fault(), 1);
        Check.is("sitting", x.sitting(), 0);
        Check.is("surely", x.surely(), 0);
        Check.is("ask", x.ask(), -1);
        Check.is("roomOf", x.roomOf(1), 0);
        Check.is("byteAt", x.byteAt(0), 'w');
        Check.is("told", x.told(1) * 10 + x.told(2), 17);
        // Names are those of the post as kept.
        Check.is("its tag", Check.tag(x, 2), "m is c");
        Check.is("the other's idea", Check.sentence(x, "is z"), -4);
        Check.is("its own idea", Check.sentence(x, "is c"), 1);
        // Without a sentence when kept: without one when restored.
        WonderParcels y = made();
        y.image(1);
        Check.sentence(y, "watched");
        Check.is("said", y.said(-1), 2);
        y.restore(1);
        Check.is("no sentence", y.said(-1), -1);
        // What is done behind an image does not change it.
        y.sit(4, 3);
        y.days(9);
        y.restore(1);
        Check.is("he stands", y.person(4, 2), -1);
        Check.is("the day", y.now(0), 0);
    }

    /** 42: "NONE for another what." */
    private static void count() {
        WonderParcels x = made();
        refused("count", 7, -1, x::count);
        int[] due = {IDEAS, ROOMS, PARCELS, PERSONS, 1, 2, 0};
        for (int what = 0; what < due.length; what++) {
            Check.is("count(" + what + ")", x.count(what), due[what]);
        }
        x.feed(1, 2, 3, 4, 5);
        x.end(13);
        Check.is("bytes of the tape", x.count(6), 13);
    }
}
