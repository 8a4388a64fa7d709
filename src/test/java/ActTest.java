/** Promises 12 to 19: sit, stand, wish, guess, open, carry, days, undo. */
public final class ActTest {
    private static final int[] ODD = {-1, 3, 8, Integer.MAX_VALUE, Integer.MIN_VALUE};

    public static void main(String[] args) {
        sitting();
        standing();
        wishing();
        guessing();
        opening();
        carrying();
        days();
        undoing();
        undoingOnlyWhatWasDone();
        Check.end("ActTest");
    }

    private static WonderParcels made() {
        WonderParcels x = new WonderParcels();
        Check.is("post", Check.post(x, StateTest.POST), 18);
        return x;
    }

    private static void sitting() {
        WonderParcels x = made();
        Check.is("he sits by it", x.sit(0, 0), 1);
        Check.is("by another one", x.sit(0, 1), 0);
        Check.is("by it alone", x.parcel(0, 6), 2);
        Check.is("by it", x.parcel(1, 6), 1);
        Check.is("who stood", x.sit(2, 2), 0);
        Check.is("where", x.person(2, 2), 2);
        x.open(1);
        Check.is("by an open one", x.sit(2, 1), 0);
        for (int k : ODD) {
            Check.is("sit(" + k + ", 0)", x.sit(k, 0), -1);
            Check.is("sit(0, " + k + ")", x.sit(0, k), -1);
        }
    }

    private static void standing() {
        WonderParcels x = made();
        Check.is("stand(0)", x.stand(0), 0);
        Check.is("sits by none", x.person(0, 2), -1);
        Check.is("stand(0) again", x.stand(0), 1);
        Check.is("stand(2)", x.stand(2), 1);
        for (int k : ODD) {
            Check.is("stand(" + k + ")", x.stand(k), -1);
        }
    }

    private static void wishing() {
        WonderParcels x = made();
        Check.is("he does", x.wish(0, 0), 1);
        Check.is("wish(0, 2)", x.wish(0, 2), 0);
        Check.is("what he wishes", x.person(0, 0), 2);
        x.days(1);
        Check.is("much(0, 2)", x.much(0, 2), 2);
        Check.is("much(0, 0)", x.much(0, 0), 0);
        for (int k : ODD) {
            Check.is("wish(" + k + ", 0)", x.wish(k, 0), -1);
            Check.is("wish(0, " + k + ")", x.wish(0, k), -1);
        }
    }

    private static void guessing() {
        WonderParcels x = made();
        Check.is("sits by none", x.guess(2, 0), -2);
        Check.is("wrong", x.guess(0, 1), 0);
        Check.is("1 more", x.much(0, 1), 5);
        Check.is("wrong so far", x.person(0, 4), 1);
        x.days(1);
        Check.is("right", x.guess(1, 1), 1);
        Check.is("'guess' less", x.much(0, 1), 4);
        Check.is("right so far", x.person(1, 3), 1);
        Check.is("wrong so far", x.person(1, 4), 0);
        Check.is("now it is nothing: wrong", x.guess(1, 1), 0);
        x.sit(2, 2);
        Check.is("right", x.guess(2, 2), 1);
        Check.is("it had 5", x.much(2, 2), 1);
        Check.is("not turned", x.parcel(2, 5), 0);
        x.open(2);
        Check.is("open", x.guess(2, 2), -3);
        for (int k : ODD) {
            Check.is("guess(" + k + ", 0)", x.guess(k, 0), -1);
            Check.is("guess(0, " + k + ")", x.guess(0, k), -1);
        }
        WonderParcels y = new WonderParcels();
        Check.post(y, "idea a 60;idea b 2;room r;parcel q r;parcel s r;person p a 9;sits p q;has q b 99;has q a 98;has s b 3;");
        Check.is("wrong", y.guess(0, 0), 0);
        Check.is("99", y.much(0, 0), 99);
        Check.is("of like ones the first: right", y.guess(0, 0), 1);
        Check.is("5 without 'guess'", y.much(0, 0), 94);
        y.sit(0, 1);
        Check.is("right", y.guess(0, 1), 1);
        Check.is("0 at least", y.much(1, 1), 0);
        WonderParcels z = new WonderParcels();
        Check.post(z, "idea a 60;idea b 2;room r;parcel q r;person p a 9;sits p q;has q b 99;has q a 99;");
        Check.is("wrong", z.guess(0, 1), 0);
        Check.is("99 at most", z.much(0, 1), 99);
    }

    private static void opening() {
        WonderParcels x = made();
        Check.is("open(1)", x.open(1), 0);
        Check.is("it is", x.open(1), 1);
        Check.is("open", x.parcel(1, 4), 1);
        Check.is("which", x.now(1), 2);
        for (int k : ODD) {
            Check.is("open(" + k + ")", x.open(k), -1);
        }
    }

    private static void carrying() {
        WonderParcels x = made();
        Check.is("it is there", x.carry(0, 0), 2);
        Check.is("carry(0, 1)", x.carry(0, 1), 0);
        Check.is("its room", x.parcel(0, 1), 1);
        x.open(0);
        Check.is("open", x.carry(0, 0), 1);
        Check.is("open and there", x.carry(0, 1), 1);
        for (int k : ODD) {
            Check.is("carry(" + k + ", 0)", x.carry(k, 0), -1);
            Check.is("carry(0, " + k + ")", x.carry(0, k), -1);
        }
        Check.is("carry(0, 2)", x.carry(0, 2), -1);
    }

    private static void days() {
        WonderParcels x = made();
        Check.is("days(0)", x.days(0), -1);
        Check.is("days(-1)", x.days(-1), -1);
        Check.is("days(61)", x.days(61), -1);
        for (int day = 60; day <= 360; day += 60) {
            Check.is("days(60)", x.days(60), 60);
            Check.is("the day", x.now(0), day);
        }
        Check.is("days(39)", x.days(39), 39);
        Check.is("days(60) at 399", x.days(60), 1);
        Check.is("400", x.now(0), 400);
        Check.is("days(1) at 400", x.days(1), 0);
        Check.is("undo gives the 399th back", x.undo(), 7);
        Check.is("399", x.now(0), 399);
    }

    private static void undoing() {
        WonderParcels x = made();
        x.sit(2, 2);
        x.stand(0);
        x.wish(0, 1);
        x.guess(1, 0);
        x.open(2);
        x.carry(1, 1);
        x.days(5);
        x.drawn(3, 7);
        Check.is("day", x.now(0), 8);
        Check.is("undo drawn", x.undo(), 7);
        Check.is("day", x.now(0), 5);
        Check.is("undo days", x.undo(), 6);
        Check.is("day", x.now(0), 0);
        Check.is("much", x.much(0, 1), 4);
        Check.is("undo carry", x.undo(), 5);
        Check.is("room", x.parcel(1, 1), 0);
        Check.is("undo open", x.undo(), 4);
        Check.is("open", x.now(1), 0);
        Check.is("undo guess", x.undo(), 3);
        Check.is("wrong", x.person(1, 4), 0);
        Check.is("much", x.much(0, 0), 0);
        Check.is("undo wish", x.undo(), 2);
        Check.is("wish", x.person(0, 0), 0);
        Check.is("undo stand", x.undo(), 1);
        Check.is("seat", x.person(0, 2), 0);
        Check.is("undo sit", x.undo(), 0);
        Check.is("seat", x.person(2, 2), -1);
        Check.is("nothing more", x.undo(), -1);
        // Nine acts: the first is kept no more.
        for (int k = 0; k < 9; k++) {
            Check.is("days(1)", x.days(1), 1);
        }
        for (int left = 7; left >= 0; left--) {
            Check.is("undo", x.undo(), left);
        }
        Check.is("nothing more", x.undo(), -1);
        Check.is("day", x.now(0), 1);
        // A book is one act.
        Check.is("book", Check.book(x, "ann joins bag;day 3;bob stands;", 1), -1);
        Check.is("day", x.now(0), 4);
        Check.is("undo book", x.undo(), 0);
        Check.is("day", x.now(0), 1);
        Check.is("seat", x.person(0, 2), 0);
    }

    private static void undoingOnlyWhatWasDone() {
        WonderParcels x = made();
        for (int k = 0; k < 8; k++) {
            x.days(1);
        }
        x.sit(0, 0);
        x.sit(9, 9);
        x.stand(2);
        x.wish(0, 0);
        x.guess(2, 0);
        x.carry(0, 0);
        x.days(0);
        x.drawn(0, 1);
        Check.book(x, "day 3;", 0);
        Check.book(x, "day", 1);
        Check.sentence(x, "opened");
        x.rest();
        x.rooms();
        x.odds(0, 0, 3, 1);
        x.image(0);
        Check.is("undo", x.undo(), 7);
        Check.is("day", x.now(0), 7);
        Check.is("the sentence stays", x.said(-1), 0);
        x.open(0);
        Check.is("it may be said", x.said(-1), 1);
        x.open(0);
        Check.is("undo open", x.undo(), 7);
        Check.is("it may not be said", x.said(-1), 0);
        // A book that is wrong at once was lived all the same.
        Check.is("wrong at once", Check.book(x, "cy stands;", 1), 0);
        Check.is("undo it", x.undo(), 7);
        Check.is("day", x.now(0), 7);
    }
}
