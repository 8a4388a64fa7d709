/** Promises 20 to 33: when, sitters, sitting, sat, surely, ask, let, rooms, roomOf, rest, rested, greatest, tag, byteAt. */
public final class ForesightTest {
    private static final int[] ODD = {-1, 3, 6, 8, Integer.MAX_VALUE, Integer.MIN_VALUE};

    public static void main(String[] args) {
        when();
        whenAtTheEnd();
        sitters();
        sittersAndOthers();
        sat();
        satBulges();
        satWrong();
        let();
        rooms();
        rest();
        restChoices();
        greatest();
        tags();
        Check.end("ForesightTest");
    }

    private static WonderParcels made(String post) {
        WonderParcels x = new WonderParcels();
        Check.is("post", Check.post(x, post) > 0, true);
        return x;
    }

    private static void when() {
        WonderParcels x = made(StateTest.POST);
        Check.is("when(0, 1)", x.when(0, 1), 2);
        Check.is("when(0, 0): both have 99 then", x.when(0, 0), 50);
        Check.is("when(1, 1)", x.when(1, 1), 8);
        Check.is("when(1, 0)", x.when(1, 0), 10);
        Check.is("when(2, 2)", x.when(2, 2), 0);
        Check.is("when(2, 0)", x.when(2, 0), -1);
        Check.is("nothing changes", x.now(0) + x.now(4), 9);
        for (int k : ODD) {
            Check.is("when(" + k + ", 0)", x.when(k, 0), -1);
            Check.is("when(0, " + k + ")", x.when(0, k), -1);
        }
        x.open(0);
        Check.is("an open one is what it is", x.when(0, 1), -1);
        x.open(2);
        Check.is("an open one is what it is", x.when(2, 2), 0);
        WonderParcels y = made("idea b 1;idea a 60;room r;parcel q r;parcel s r;person p a 1;person o a 1;sits p q;sits o s;has s b 60;");
        Check.is("in 60 days", y.when(0, 1), 60);
        Check.is("in 61 days", y.when(1, 1), -1);
        y.days(1);
        Check.is("in 60 days", y.when(1, 1), 60);
    }

    private static void whenAtTheEnd() {
        WonderParcels x = made("idea a 5;room r;parcel q r;parcel s r;person p a 1;has s a 5;");
        for (int k = 0; k < 6; k++) {
            x.days(60);
        }
        x.days(35);
        x.sit(0, 0);
        Check.is("five left", x.when(0, 0), 5);
        Check.is("sitters of five", x.sitters(0, 0, 5), 1);
        Check.is("sitters of six", x.sitters(0, 0, 6), -1);
        x.days(1);
        x.guess(0, 0);
        Check.is("has 2", x.much(0, 0), 2);
        Check.is("four left", x.when(0, 0), 3);
        x.days(2);
        Check.is("two left", x.when(0, 0), 1);
        x.stand(0);
        x.days(1);
        x.sit(0, 0);
        Check.is("one left", x.when(0, 0), 1);
        x.stand(0);
        x.days(1);
        x.sit(0, 0);
        Check.is("none left", x.when(0, 0), -1);
        Check.is("none left, it is", x.when(1, 0), 0);
        Check.is("sitters, none left", x.sitters(1, 0, 1), -1);
    }

    private static void sitters() {
        WonderParcels x = made("idea a 6;idea b 10;room r;parcel q r;parcel s r;"
                + "person k a 3;person l a 3;person m b 9;sits m q;");
        Check.is("sitting ahead of any", x.sitting(), -1);
        Check.is("both", x.sitters(0, 0, 1), 2);
        Check.is("who", x.sitting(), 3);
        Check.is("one", x.sitters(0, 0, 2), 1);
        Check.is("of like ones the least", x.sitting(), 1);
        Check.is("by none", x.sitters(0, 1, 1), -1);
        Check.is("who stays", x.sitting(), 1);
        Check.is("one", x.sitters(0, 1, 2), 1);
        Check.is("who", x.sitting(), 4);
        Check.is("he sits elsewhere", x.sitters(1, 1, 2), 1);
        Check.is("who", x.sitting(), 4);
        Check.is("30 days", x.sitters(0, 0, 30), 1);
        Check.is("0 days", x.sitters(0, 0, 0), -1);
        Check.is("31 days", x.sitters(0, 0, 31), -1);
        for (int k : ODD) {
            Check.is("sitters(" + k + ", 0, 1)", x.sitters(k, 0, 1), -1);
            Check.is("sitters(0, " + k + ", 1)", x.sitters(0, k, 1), -1);
        }
        Check.is("nothing changes", x.person(2, 2), 0);
        x.open(0);
        Check.is("open", x.sitters(0, 0, 2), -1);
        Check.is("who stays", x.sitting(), 1);
        Check.post(x, "");
        Check.is("who stays behind a new post", x.sitting(), 1);
    }

    private static void sittersAndOthers() {
        // Fewest goes ahead of least as bits.
        WonderParcels w = made("idea a 6;room r;parcel q r;person k a 3;person l a 3;person m a 6;");
        Check.is("m alone", w.sitters(0, 0, 1), 1);
        Check.is("who", w.sitting(), 4);
        // He who sits by the other leaks; what is here now sits no more.
        WonderParcels x = made("idea a 6;idea b 10;room r;parcel q r;parcel s r;"
                + "person k a 9;person m b 9;sits m s;sits k q;leak 5;");
        Check.is("none need sit", x.sitters(0, 1, 2), 0);
        Check.is("who", x.sitting(), 0);
        Check.is("a by k", x.sitters(0, 0, 1), 1);
        Check.is("who", x.sitting(), 1);
        Check.is("b in a day by none", x.sitters(0, 1, 1), -1);
        Check.is("he sits by this one then, not by that", x.sitters(1, 1, 2), 1);
        Check.is("who", x.sitting(), 2);
        x.open(1);
        Check.is("by an open one he does not leak", x.sitters(0, 1, 2), 1);
        Check.is("who", x.sitting(), 2);
    }

    private static void sat() {
        WonderParcels x = made("idea a 6;idea b 10;room r;parcel q r;parcel s r;"
                + "person k a 3;person l a 3;person m b 5;sits m s;leak 5;");
        Check.is("surely ahead of any", x.surely(), -1);
        Check.is("ask ahead of any", x.ask(), -1);
        // a in a day without bulges: k and l, not m, whose leak is left out.
        Check.is("sat", Check.sat(x, 0, 1, 0, 0), 1);
        Check.is("surely", x.surely(), 3);
        Check.is("ask: each as far from half", x.ask(), 0);
        // Nothing in a day: not k and l both; without bulges not m with one of them.
        Check.is("sat", Check.sat(x, 0, 1, 255, 0), 4);
        Check.is("surely", x.surely(), 0);
        Check.is("ask: all are in one of four", x.ask(), 0);
        Check.is("bulges: m with k or with l", Check.sat(x, 0, 1, 255, 1), 2);
        Check.is("surely", x.surely(), 4);
        Check.is("ask: k is in one of two", x.ask(), 0);
        // In two days b is 10: m alone, for with one of the others it bulges.
        Check.is("sat", Check.sat(x, 0, 2, 1, 0), 1);
        Check.is("surely", x.surely(), 4);
        // With bulges: m with k (6, 10), with l; with both a is 12.
        Check.is("sat", Check.sat(x, 0, 2, 1, 2), 2);
        Check.is("a with bulges: all three", Check.sat(x, 0, 2, 0, 2), 1);
        Check.is("surely", x.surely(), 7);
        Check.is("none", Check.sat(x, 0, 2, 0, 1), 0);
        Check.is("surely stays", x.surely(), 7);
        Check.is("ask stays", x.ask(), 0);
        Check.is("nothing changes", x.person(2, 2), 1);
        // As it was then, whatever comes.
        Check.sat(x, 0, 1, 255, 1);
        Check.post(x, "idea a 1;room r;parcel q r;");
        Check.is("surely", x.surely(), 4);
        Check.is("ask", x.ask(), 0);
        Check.is("without persons: the empty set", Check.sat(x, 0, 1, 255, 0), 1);
        Check.is("surely", x.surely(), 0);
        Check.is("ask without persons", x.ask(), -1);
        WonderParcels y = made("idea a 9;room r;parcel q r;person k a 1;person l a 9;person m a 1;");
        Check.is("l, whoever else", Check.sat(y, 0, 1, 0, 0), 4);
        Check.is("surely", y.surely(), 2);
        Check.is("ask", y.ask(), 0);
        WonderParcels z = made("idea a 9;room r;parcel q r;person l a 9;person k a 1;");
        Check.is("l, whoever else", Check.sat(z, 0, 1, 0, 0), 2);
        Check.is("ask k", z.ask(), 1);
    }

    private static void satBulges() {
        WonderParcels x = made("idea a 6;idea b 6;room r;parcel q r;person k a 1;person l b 1;sits k q;sits l q;");
        x.days(60);
        x.days(36);
        Check.is("bulge", x.parcel(0, 3), 96);
        Check.is("two more", Check.sat(x, 0, 2, 0, 2), 1);
        Check.is("three more in 30 days, 99 at most", Check.sat(x, 0, 30, 0, 3), 1);
        Check.is("not thirty", Check.sat(x, 0, 30, 0, 30), 0);
        Check.is("not 255", Check.sat(x, 0, 30, 0, 255), 0);
        x.days(3);
        Check.is("0 more, all four", Check.sat(x, 0, 5, 0, 0) + 10 * Check.sat(x, 0, 5, 1, 0), 4);
        for (int k = 0; k < 6; k++) {
            x.days(60);
        }
        Check.is("day", x.now(0), 400);
        Check.is("whatever days are left", Check.sat(x, 0, 30, 0, 0), 4);
    }

    private static void satWrong() {
        WonderParcels x = made(StateTest.POST);
        Check.is("empty tape", x.sat(), -1);
        Check.is("no such parcel", Check.sat(x, 3, 1, 0, 0), -1);
        Check.is("no such parcel", Check.sat(x, 255, 1, 0, 0), -1);
        Check.is("0 days", Check.sat(x, 0, 0, 0, 0), -1);
        Check.is("31 days", Check.sat(x, 0, 31, 0, 0), -1);
        Check.is("no such idea", Check.sat(x, 0, 1, 3, 0), -1);
        Check.is("no such idea", Check.sat(x, 0, 1, 254, 0), -1);
        Check.is("the tape is empty", x.count(6), 0);
        Check.tape(x, new byte[] {0, 1, 0});
        Check.is("three bytes", x.sat(), -1);
        Check.is("the tape is empty", x.count(6), 0);
        Check.tape(x, new byte[] {0, 1, 0, 0, 0});
        Check.is("five bytes", x.sat(), -1);
        Check.is("30 days", Check.sat(x, 0, 30, 0, 0) >= 0, true);
        x.open(0);
        Check.is("open", Check.sat(x, 0, 1, 0, 0), -1);
        Check.is("the tape is empty", x.count(6), 0);
    }

    private static void let() {
        WonderParcels x = made("idea a 10;idea b 8;room r;parcel q r;parcel s r;parcel t r;has q a 12;has q b 10;has s a 99;guess 4;");
        Check.is("a to 8, b to 6", x.let(0), 2);
        Check.is("99 to 7", x.let(1), 23);
        Check.is("nothing", x.let(2), 0);
        x.open(0);
        Check.is("open", x.let(0), 2);
        Check.is("much stays", x.much(0, 0), 12);
        for (int k : ODD) {
            Check.is("let(" + k + ")", x.let(k), -1);
        }
        WonderParcels y = made("idea a 1;room r;parcel q r;has q a 99;guess 1;");
        Check.is("99", y.let(0), 99);
    }

    private static void roomsAre(WonderParcels x, int... due) {
        for (int q = 0; q < 6; q++) {
            Check.is("roomOf(" + q + ")", x.roomOf(q), q < due.length ? due[q] : -1);
        }
        Check.is("roomOf(-1)", x.roomOf(-1), -1);
        Check.is("roomOf(6)", x.roomOf(6), -1);
        Check.is("roomOf(most)", x.roomOf(Integer.MAX_VALUE), -1);
    }

    private static void rooms() {
        WonderParcels x = made("idea a 1;idea b 1;idea c 1;idea d 1;room r;parcel k r;parcel l r;parcel m r;parcel n r;"
                + "has k a 1;has l d 1;has m b 1;has n c 1;quarrel a b;quarrel b c;quarrel c d;");
        roomsAre(x);
        // Each in the least room that it finds would take three; two are enough.
        Check.is("rooms", x.rooms(), 2);
        roomsAre(x, 0, 1, 1, 0);
        Check.is("nothing changes", x.parcel(1, 1), 0);
        Check.post(x, "");
        roomsAre(x, 0, 1, 1, 0);
        Check.is("no rooms for no parcels", x.rooms(), 0);
        roomsAre(x);
        WonderParcels y = made("idea a 1;idea b 1;idea c 1;room r;parcel k r;parcel l r;parcel m r;parcel n r;parcel o r;"
                + "has k a 1;has m b 1;has n a 1;has o c 1;quarrel a b;quarrel b c;quarrel c a;");
        Check.is("rooms", y.rooms(), 3);
        roomsAre(y, 0, 0, 1, 0, 2);
        WonderParcels z = made("idea a 1;idea b 1;idea c 1;idea d 1;idea e 1;idea f 1;room r;"
                + "parcel k r;parcel l r;parcel m r;parcel n r;parcel o r;parcel p r;"
                + "has k a 1;has l b 1;has m c 1;has n d 1;has o e 1;has p f 1;"
                + "quarrel a b;quarrel a c;quarrel a d;quarrel a e;quarrel a f;quarrel b c;quarrel b d;quarrel b e;"
                + "quarrel b f;quarrel c d;quarrel c e;quarrel c f;quarrel d e;quarrel d f;quarrel e f;");
        Check.is("rooms", z.rooms(), 6);
        roomsAre(z, 0, 1, 2, 3, 4, 5);
        z.open(5);
        Check.is("open ones are in rooms too", z.rooms(), 6);
    }

    private static void restedAre(WonderParcels x, int... due) {
        for (int p = 0; p < 8; p++) {
            Check.is("rested(" + p + ")", x.rested(p), p < due.length ? due[p] : -1);
        }
        Check.is("rested(-1)", x.rested(-1), -1);
        Check.is("rested(8)", x.rested(8), -1);
        Check.is("rested(least)", x.rested(Integer.MIN_VALUE), -1);
    }

    private static void rest() {
        WonderParcels x = made("idea a 6;room r;parcel q r;parcel s r;person k a 2;person l a 7;leak 3;");
        restedAre(x);
        // Each has more from the other's leak and his own wish by the one where k is not: they change for ever.
        Check.is("rest", x.rest(), 10);
        restedAre(x, 1, 0);
        Check.is("nothing changes", x.person(0, 2), -1);
        Check.post(x, "");
        restedAre(x, 1, 0);
        Check.is("nobody changes", x.rest(), 1);
        restedAre(x);
        // Without leak they sit together.
        WonderParcels y = made("idea a 6;room r;parcel q r;parcel s r;person k a 2;person l a 7;sits k s;");
        Check.is("rest", y.rest(), 2);
        restedAre(y, 1, 1);
    }

    private static void restChoices() {
        // Of like ones where he sits; who stands sits by the least; who sits by an open one goes.
        WonderParcels x = made("idea a 60;room r;parcel q r;parcel s r;parcel t r;person k a 1;person l a 1;person m a 1;"
                + "sits k s;sits m t;");
        x.open(2);
        Check.is("rest", x.rest(), 2);
        restedAre(x, 1, 0, 0);
        x.open(0);
        Check.is("rest", x.rest(), 2);
        restedAre(x, 1, 1, 1);
        x.open(1);
        Check.is("all are open: all stay", x.rest(), 1);
        restedAre(x, 1, -1, 2);
        // Only if it is that behind 7 days: 14 of a, but the parcel is b.
        WonderParcels y = made("idea a 10;idea b 10;room r;parcel q r;parcel s r;person k a 2;has q b 15;has q a 13;has s a 1;");
        Check.is("rest", y.rest(), 2);
        restedAre(y, 0);
        y.sit(0, 1);
        Check.is("27 is more than 15 by q", y.rest(), 2);
        restedAre(y, 0);
        WonderParcels z = made("idea a 10;idea b 10;room r;parcel q r;parcel s r;person k a 2;has q b 28;has q a 13;has s a 1;");
        Check.is("rest", z.rest(), 2);
        restedAre(z, 1);
        // At the last day 7 days are thought of all the same.
        WonderParcels w = made("idea a 10;room r;parcel q r;parcel s r;person k a 2;has q a 9;has s a 3;");
        for (int k = 0; k < 7; k++) {
            w.days(60);
        }
        Check.is("rest at the end", w.rest(), 2);
        restedAre(w, 0);
    }

    private static void greatest() {
        WonderParcels x = made("idea a 60;idea b 60;room r;parcel q r;parcel s r;parcel t r;has q a 5;has s a 3;has s b 3;has t b 6;");
        Check.is("of like ones the first", x.greatest(), 1);
        x.open(1);
        Check.is("not open", x.greatest(), 2);
        x.open(2);
        Check.is("not open", x.greatest(), 0);
        x.open(0);
        Check.is("none is", x.greatest(), -1);
        Check.post(x, "room r;parcel q r;");
        Check.is("it has nothing", x.greatest(), 0);
        Check.post(x, "");
        Check.is("none is", x.greatest(), -1);
    }

    private static void tags() {
        WonderParcels x = made("idea wonders 5;idea b 5;room r;parcel packets r;parcel s r;has packets wonders 5;");
        Check.is("byteAt ahead of any", x.byteAt(0), -1);
        Check.is("tag(0)", Check.tag(x, 0), "packets is wonders");
        Check.is("how many", x.tag(0), 18);
        Check.is("tag(1)", Check.tag(x, 1), "s is nothing");
        Check.is("byteAt(-1)", x.byteAt(-1), -1);
        Check.is("byteAt(11)", x.byteAt(11), 'g');
        Check.is("byteAt(12)", x.byteAt(12), -1);
        Check.is("byteAt(most)", x.byteAt(Integer.MAX_VALUE), -1);
        x.open(0);
        x.open(1);
        Check.is("tag(0)", Check.tag(x, 0), "packets is wonders at last");
        Check.is("tag(1)", Check.tag(x, 1), "s is nothing at last");
        for (int k : ODD) {
            Check.is("tag(" + k + ")", x.tag(k), -1);
        }
        Check.is("the latest stays", x.byteAt(0), 's');
        Check.post(x, "");
        Check.is("the latest stays", x.byteAt(19), 't');
    }
}
