/** Promises 40, 41: image, restore. */
public final class ImageTest {
    public static void main(String[] args) {
        kept();
        whatStays();
        noSuch();
        Check.end("ImageTest");
    }

    private static void kept() {
        WonderParcels x = new WonderParcels();
        Check.post(x, StateTest.POST);
        x.days(2);
        x.guess(1, 1);
        x.guess(1, 2);
        x.open(1);
        x.sit(2, 2);
        x.wish(0, 1);
        x.carry(0, 1);
        Check.sentence(x, "opened");
        String before = seen(x);
        Check.is("image(0)", x.image(0), true);
        Check.is("still to undo", x.undo(), 6);
        x.days(9);
        Check.is("image(1)", x.image(1), true);
        String later = seen(x);
        Check.post(x, "idea z 3;");
        Check.is("restore(0)", x.restore(0), true);
        Check.is("all that is so", seen(x), before);
        Check.is("nothing to undo", x.undo(), -1);
        Check.is("the sentence", x.said(-1), 1);
        Check.is("the names", Check.tag(x, 2), "tin is cat");
        x.days(4);
        Check.is("restore(1)", x.restore(1), true);
        Check.is("all that is so", seen(x), later);
        Check.is("restore(0) again", x.restore(0), true);
        Check.is("all that is so", seen(x), before);
        x.days(1);
        Check.is("what comes can be undone", x.undo(), 0);
        Check.is("all that is so", seen(x), before);
        // An image without a sentence takes it away.
        Check.post(x, StateTest.POST);
        x.image(1);
        Check.sentence(x, "not opened");
        Check.is("said", x.said(-1), 3);
        x.restore(1);
        Check.is("no sentence", x.said(-1), -1);
    }

    private static void whatStays() {
        WonderParcels x = new WonderParcels();
        x.image(0);
        Check.post(x, StateTest.POST);
        Check.sat(x, 0, 1, 255, 0);
        x.sitters(0, 1, 2);
        x.rooms();
        x.rest();
        x.tag(0);
        Check.book(x, "day 2;", 0);
        Check.sentence(x, "?");
        x.feed(1, 2, 3, 4, 5);
        int[] before = {x.sitting(), x.surely(), x.ask(), x.roomOf(2), x.rested(0), x.byteAt(3), x.told(2), x.fault(), x.count(6)};
        Check.is("restore(0)", x.restore(0), true);
        Check.is("an empty post", x.count(0) + x.count(1) + x.count(2) + x.count(3), 0);
        int[] behind = {x.sitting(), x.surely(), x.ask(), x.roomOf(2), x.rested(0), x.byteAt(3), x.told(2), x.fault(), x.count(6)};
        for (int k = 0; k < before.length; k++) {
            Check.is("what was told last, " + k, behind[k], before[k]);
        }
        Check.is("the tape", x.count(6), 20);
        Check.is("the fault", x.fault(), 1);
    }

    private static void noSuch() {
        WonderParcels x = new WonderParcels();
        for (int k : new int[] {-1, 2, Integer.MAX_VALUE, Integer.MIN_VALUE}) {
            Check.is("image(" + k + ")", x.image(k), false);
            Check.is("restore(" + k + ")", x.restore(k), false);
        }
        Check.is("nothing is kept", x.restore(0), false);
        Check.is("nothing is kept", x.restore(1), false);
        Check.is("image(1)", x.image(1), true);
        Check.is("nothing is kept", x.restore(0), false);
        Check.is("kept", x.restore(1), true);
        // One that is not done leaves what can be undone.
        x.days(1);
        Check.is("nothing is kept", x.restore(0), false);
        Check.is("undo", x.undo(), 0);
    }

    private static String seen(WonderParcels x) {
        StringBuilder all = new StringBuilder();
        for (int what = 0; what < 7; what++) {
            all.append(x.now(what)).append(' ').append(what < 6 ? x.count(what) : 0).append(' ').append(x.said(what - 1)).append(' ');
            all.append(x.need(what)).append(' ').append(x.quarrels(what)).append(' ');
            for (int k = 0; k < 8; k++) {
                all.append(Check.parcel(x, k, what)).append(' ').append(Check.person(x, k, what)).append(' ');
                all.append(x.much(k, what)).append(' ');
            }
        }
        return all.toString();
    }
}
