/** Promises 1 to 3 and 42: a new object, feed, end, count. */
public final class TapeTest {
    public static void main(String[] args) {
        newObject();
        feeding();
        ending();
        counting();
        Check.end("TapeTest");
    }

    private static void newObject() {
        WonderParcels x = new WonderParcels();
        int[] due = {0, 0, 0, 0, 0, 5, 0};
        for (int what = 0; what < due.length; what++) {
            Check.is("count(" + what + ") of a new object", x.count(what), due[what]);
        }
        for (int what = 0; what <= 6; what++) {
            Check.is("now(" + what + ") of a new object", x.now(what), 0);
        }
        Check.is("fault() of a new object", x.fault(), 0);
        Check.is("undo() of a new object", x.undo(), -1);
        Check.is("said(-1) of a new object", x.said(-1), -1);
    }

    private static void feeding() {
        WonderParcels x = new WonderParcels();
        for (int n = 20; n <= 940; n += 20) {
            Check.is("feed", x.feed(0x20202020, 0x20202020, 0x20202020, 0x20202020, 0x20202020), n);
        }
        Check.is("feed beyond 940", x.feed(1, 2, 3, 4, 5), -1);
        Check.is("count(6) beyond 940", x.count(6), 940);
        Check.is("end(921)", x.end(921), true);
        Check.is("feed that would come to 941", x.feed(1, 2, 3, 4, 5), -1);
        Check.is("count(6) stays", x.count(6), 921);
        Check.is("end(920)", x.end(920), true);
        Check.is("feed that comes to 940", x.feed(1, 2, 3, 4, 5), 940);
        // The highest byte comes first: 'r', 'o', 'o', 'm' and the rest.
        WonderParcels y = new WonderParcels();
        y.feed(0x726f6f6d, 0x20612020, 0x20202020, 0x20202020, 0x2020203b);
        Check.is("post of 'room a ;'", y.post(), 1);
        Check.is("rooms told", y.count(1), 1);
        // Bytes above 127 come whole: 255 is nothing for sat.
        Check.post(y, "room a;parcel b a;");
        Check.is("sat by 255", Check.sat(y, 0, 1, 255, 0), 1);
    }

    private static void ending() {
        WonderParcels x = new WonderParcels();
        Check.is("end(0) of nothing", x.end(0), true);
        Check.is("end(1) of nothing", x.end(1), false);
        x.feed(0, 0, 0, 0, 0);
        Check.is("end(21)", x.end(21), false);
        Check.is("end(-1)", x.end(-1), false);
        Check.is("end(least)", x.end(Integer.MIN_VALUE), false);
        Check.is("end(most)", x.end(Integer.MAX_VALUE), false);
        Check.is("count(6) stays", x.count(6), 20);
        Check.is("end(20)", x.end(20), true);
        Check.is("end(7)", x.end(7), true);
        Check.is("count(6)", x.count(6), 7);
        Check.is("end(8) now", x.end(8), false);
        Check.is("feed behind 7", x.feed(0, 0, 0, 0, 0), 27);
        // Its first bytes alone: what is fed then stands behind them.
        WonderParcels y = new WonderParcels();
        y.feed(0x726f6f6d, 0x20202020, 0x78787878, 0x78787878, 0x78787878);
        y.end(5);
        y.feed(0x613b2020, 0x20202020, 0x20202020, 0x20202020, 0x20202020);
        Check.is("'room ' and 'a;'", y.post(), 1);
    }

    private static void counting() {
        WonderParcels x = new WonderParcels();
        Check.post(x, "idea a 1;idea b 2;idea c 3;room d;room e;parcel f d;person g a 1;person h a 1;"
                + "person i a 1;person j a 1;leak 4;guess 9;");
        int[] due = {3, 2, 1, 4, 4, 9, 0};
        for (int what = 0; what < due.length; what++) {
            Check.is("count(" + what + ")", x.count(what), due[what]);
        }
        Check.is("count(-1)", x.count(-1), -1);
        Check.is("count(7)", x.count(7), -1);
        x.feed(1, 1, 1, 1, 1);
        Check.is("count(6)", x.count(6), 20);
    }
}
