/** Promises 34, 35: drawn, odds. What is due was reckoned by another program in another language. */
public final class DrawTest {
    public static void main(String[] args) {
        drawn();
        few();
        atTheEnd();
        odds();
        Check.end("DrawTest");
    }

    private static WonderParcels made(String post) {
        WonderParcels x = new WonderParcels();
        Check.is("post", Check.post(x, post) > 0, true);
        return x;
    }

    private static void has(WonderParcels x, int... due) {
        for (int k = 0; k < due.length; k++) {
            Check.is("much(" + k / 3 + ", " + k % 3 + ")", x.much(k / 3, k % 3), due[k]);
        }
    }

    private static void persons(WonderParcels x, int... due) {
        for (int k = 0; k < due.length; k++) {
            Check.is("person(" + k / 2 + ", " + (k % 2) * 2 + ")", x.person(k / 2, (k % 2) * 2), due[k]);
        }
    }

    private static void drawn() {
        WonderParcels x = made(StateTest.POST);
        Check.is("drawn(12, 1)", x.drawn(12, 1), 12);
        Check.is("day", x.now(0), 12);
        has(x, 22, 4, 0, 18, 0, 0, 0, 0, 5);
        persons(x, 0, 1, 0, 0, 1, -1);
        Check.is("undo", x.undo(), 0);
        persons(x, 0, 0, 1, 0, 2, -1);
        Check.is("drawn(12, -5)", x.drawn(12, -5), 12);
        has(x, 8, 4, 6, 11, 0, 2, 27, 0, 59);
        persons(x, 0, 1, 0, 2, 2, -1);
        Check.is("drawn(0, 1)", x.drawn(0, 1), -1);
        Check.is("drawn(61, 1)", x.drawn(61, 1), -1);
        Check.is("drawn(-1, 1)", x.drawn(-1, 1), -1);
        Check.is("drawn(60, 1)", x.drawn(60, 1), 60);
    }

    /** Without parcels no parcel is drawn: the draws go on with the next person. */
    private static void few() {
        WonderParcels x = new WonderParcels();
        Check.is("drawn in an empty post", x.drawn(1, 1), -1);
        Check.post(x, "idea a 1;room r;parcel q r;");
        Check.is("no persons", x.drawn(1, 1), -1);
        Check.post(x, "idea a 1;idea b 1;person p a 1;person o a 1;");
        Check.is("no parcels", x.drawn(60, 3), 60);
        int seed = 3;
        int[] wish = new int[2];
        for (int k = 0; k < 120; k++) {
            seed = seed * 1103515245 + 12345;
            if ((seed >>> 8) % 8 == 2) {
                seed = seed * 1103515245 + 12345;
                wish[k % 2] = (seed >>> 8) % 2;
            }
        }
        persons(x, wish[0], -1, wish[1], -1);
    }

    private static void atTheEnd() {
        WonderParcels x = made(StateTest.POST);
        for (int k = 0; k < 6; k++) {
            x.drawn(60, k);
        }
        x.drawn(38, 1);
        Check.is("day", x.now(0), 398);
        Check.is("two are left", x.drawn(60, 9), 2);
        Check.is("day", x.now(0), 400);
        int all = x.now(4);
        int seats = x.now(3);
        Check.is("none is left", x.drawn(60, 9), 0);
        Check.is("nothing changes", x.now(4), all);
        Check.is("nothing changes", x.now(3), seats);
        Check.is("undo: eight were drawn", x.undo(), 7);
        Check.is("day", x.now(0), 398);
    }

    private static void odds() {
        int[][] due = {
            {10, 1, 7}, {10, 0, 15}, {10, 0, 8}, {16, 1, 9}, {5, 0, 8}, {7, 0, 13}, {7, 0, 7}, {7, 0, 6}, {16, 1, 17}};
        WonderParcels x = made(StateTest.POST);
        for (int k = 0; k < due.length; k++) {
            Check.is("odds of seeds 0 to 29", x.odds(k / 3, k % 3, 30, 0), due[k][0]);
            Check.is("odds of seed 7", x.odds(k / 3, k % 3, 1, 7), due[k][1]);
            Check.is("odds of seeds round the end", x.odds(k / 3, k % 3, 30, Integer.MAX_VALUE - 10), due[k][2]);
        }
        Check.is("nothing changes", x.now(0), 0);
        Check.is("nothing to undo", x.undo(), -1);
        for (int k : new int[] {-1, 3, Integer.MAX_VALUE, Integer.MIN_VALUE}) {
            Check.is("odds(" + k + ", ..)", x.odds(k, 0, 1, 1), -1);
            Check.is("odds(0, " + k + ", ..)", x.odds(0, k, 1, 1), -1);
        }
        for (int n : new int[] {0, -1, 31, Integer.MAX_VALUE, Integer.MIN_VALUE}) {
            Check.is("odds of " + n + " seeds", x.odds(0, 0, n, 1), -1);
        }
        WonderParcels y = made("idea a 1;room r;parcel q r;has q a 1;");
        Check.is("without persons it stays", y.odds(0, 0, 30, 1), 30);
    }
}
