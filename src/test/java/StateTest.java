/** Promises 6 to 11: much, parcel, person, need, quarrels, now; what a parcel is, and how a day goes. */
public final class StateTest {
    static final String POST = "idea lamp 10;idea doll 8;idea cat 3;room hall;room attic;"
            + "parcel box hall;parcel bag hall;parcel tin attic;"
            + "person ann lamp 2;person bob doll 3;person cy cat 9;sits ann box;sits bob box;"
            + "has box doll 4;has tin cat 5;quarrel lamp doll;leak 1;guess 4;";

    public static void main(String[] args) {
        atFirst();
        behindTwoDays();
        noSuchOnes();
        whatItIs();
        atMost99();
        openOnes();
        leaks();
        turns();
        Check.end("StateTest");
    }

    private static WonderParcels made() {
        WonderParcels x = new WonderParcels();
        Check.is("post", Check.post(x, POST), 18);
        return x;
    }

    private static void parcel(WonderParcels x, int q, int... due) {
        for (int what = 0; what < due.length; what++) {
            Check.is("parcel(" + q + ", " + what + ")", Check.parcel(x, q, what), due[what]);
        }
    }

    private static void person(WonderParcels x, int p, int... due) {
        for (int what = 0; what < due.length; what++) {
            Check.is("person(" + p + ", " + what + ")", Check.person(x, p, what), due[what]);
        }
    }

    private static void now(WonderParcels x, int... due) {
        for (int what = 0; what < due.length; what++) {
            Check.is("now(" + what + ")", x.now(what), due[what]);
        }
    }

    private static void much(WonderParcels x, int q, int... due) {
        for (int i = 0; i < due.length; i++) {
            Check.is("much(" + q + ", " + i + ")", x.much(q, i), due[i]);
        }
    }

    private static void atFirst() {
        WonderParcels x = made();
        parcel(x, 0, -1, 0, 4, 0, 0, 0, 3);
        parcel(x, 1, -1, 0, 0, 0, 0, 0, 0);
        parcel(x, 2, 2, 1, 5, 0, 0, 0, 0);
        person(x, 0, 0, 2, 0, 0, 0);
        person(x, 1, 1, 3, 0, 0, 0);
        person(x, 2, 2, 9, -1, 0, 0);
        now(x, 0, 0, 3, 1, 9, 0, 0);
        Check.is("need(0)", x.need(0), 10);
        Check.is("need(2)", x.need(2), 3);
        Check.is("quarrels(0)", x.quarrels(0), 2);
        Check.is("quarrels(1)", x.quarrels(1), 1);
        Check.is("quarrels(2)", x.quarrels(2), 0);
    }

    private static void behindTwoDays() {
        WonderParcels x = made();
        Check.is("days(2)", x.days(2), 2);
        much(x, 0, 4, 10, 0);
        much(x, 1, 2, 2, 0);
        much(x, 2, 0, 0, 5);
        parcel(x, 0, 1, 0, 14, 2, 0, 1, 3);
        parcel(x, 1, -1, 0, 4, 0, 0, 0, 0);
        parcel(x, 2, 2, 1, 5, 0, 0, 0, 0);
        x.open(1);
        x.open(2);
        x.sit(2, 1);
        now(x, 2, 6, 2, 3, 23, 2, 1);
    }

    private static void noSuchOnes() {
        WonderParcels x = made();
        int[] odd = {-1, 3, 6, 8, Integer.MAX_VALUE, Integer.MIN_VALUE};
        for (int k : odd) {
            Check.is("much(" + k + ", 0)", x.much(k, 0), -1);
            Check.is("much(0, " + k + ")", x.much(0, k), -1);
            Check.is("need(" + k + ")", x.need(k), -1);
            Check.is("quarrels(" + k + ")", x.quarrels(k), -1);
            Check.is("parcel(" + k + ", 0)", Check.parcel(x, k, 0), -99);
            Check.is("person(" + k + ", 0)", Check.person(x, k, 0), -99);
        }
        for (int what : new int[] {-1, 7, Integer.MAX_VALUE, Integer.MIN_VALUE}) {
            Check.is("parcel(0, " + what + ")", Check.parcel(x, 0, what), -99);
            Check.is("person(0, " + what + ")", Check.person(x, 0, what), -99);
            Check.is("now(" + what + ")", x.now(what), -1);
        }
        Check.is("person(0, 5)", Check.person(x, 0, 5), -99);
        now(x, 0, 0, 3, 1, 9, 0, 0);
    }

    private static void whatItIs() {
        WonderParcels x = new WonderParcels();
        Check.post(x, "idea a 10;idea b 8;idea c 8;room r;parcel m r;parcel n r;parcel o r;parcel q r;"
                + "has m a 9;has m b 8;has n b 8;has n c 8;has o b 8;has o c 9;has q a 10;has q b 9;has q c 7;");
        parcel(x, 0, 1); // most of a, but not as much as its need
        parcel(x, 1, 1); // of like ones the first
        parcel(x, 2, 2);
        parcel(x, 3, 0);
        Check.is("now(2)", x.now(2), 0);
    }

    private static void atMost99() {
        WonderParcels x = new WonderParcels();
        Check.post(x, "idea a 60;idea b 60;room r;parcel q r;parcel s r;person p a 9;person o b 9;sits p q;sits o q;leak 5;");
        x.days(10);
        much(x, 0, 90, 90);
        parcel(x, 0, 0, 0, 180, 10, 0, 1, 3);
        much(x, 1, 50, 50);
        x.days(10);
        much(x, 0, 99, 99);
        much(x, 1, 99, 99);
        x.days(60);
        Check.is("bulge", x.parcel(0, 3), 80);
        x.days(60);
        Check.is("bulge at most", x.parcel(0, 3), 99);
        Check.is("bulge of the other", x.parcel(1, 3), 0);
    }

    private static void openOnes() {
        WonderParcels x = made();
        x.open(0);
        x.days(2);
        // Who sits by an open one gives nothing, not even what leaks.
        much(x, 0, 0, 4, 0);
        much(x, 1, 0, 0, 0);
        parcel(x, 0, -1, 0, 4, 0, 1, 0, 3);
        // An open one gains nothing of what leaks.
        x.sit(2, 1);
        x.days(1);
        much(x, 0, 0, 4, 0);
        much(x, 1, 0, 0, 9);
    }

    private static void leaks() {
        WonderParcels x = made();
        x.carry(2, 0);
        x.days(1);
        // Two in the hall leak to both others there.
        much(x, 1, 1, 1, 0);
        much(x, 2, 1, 1, 5);
        x.carry(1, 1);
        x.days(1);
        much(x, 1, 1, 1, 0);
        much(x, 2, 2, 2, 5);
    }

    private static void turns() {
        WonderParcels x = new WonderParcels();
        Check.post(x, "idea a 2;idea b 3;room r;parcel q r;person p a 1;person o b 2;sits p q;");
        x.days(1);
        Check.is("nothing yet", x.parcel(0, 5), 0);
        x.days(1);
        Check.is("not nothing any more", x.parcel(0, 5), 1);
        x.stand(0);
        x.sit(1, 0);
        x.days(1);
        Check.is("not another yet", x.parcel(0, 5), 1);
        x.days(1);
        Check.is("another", x.parcel(0, 5), 2);
        Check.is("that is b", x.parcel(0, 0), 1);
        // Let down by a guess it turns no day: it is what it was at that day's beginning.
        x.guess(1, 1);
        Check.is("a again", x.parcel(0, 0), 0);
        x.stand(1);
        x.days(1);
        Check.is("no turn", x.parcel(0, 5), 2);
        Check.is("now(6)", x.now(6), 2);
    }
}
