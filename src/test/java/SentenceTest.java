/** Promises 38, 39: sentence, said. */
public final class SentenceTest {
    public static void main(String[] args) {
        ones();
        joined();
        signs();
        said();
        faults();
        limits();
        tooLong();
        Check.end("SentenceTest");
    }

    /** Parcel 0 is doll, turned once, bulges 2, has 14; 1 is open and has 4; 2 is cat and has 5. */
    private static WonderParcels made() {
        WonderParcels x = new WonderParcels();
        Check.is("post", Check.post(x, StateTest.POST), 18);
        x.days(2);
        x.open(1);
        return x;
    }

    /** The parcels of which it may be said, as bits. */
    private static void says(String text, int ones, int which) {
        WonderParcels x = made();
        Check.is("sentence '" + text + "'", Check.sentence(x, text), ones);
        Check.is("fault", x.fault(), 0);
        Check.is("the tape is empty", x.count(6), 0);
        int found = 0;
        int many = x.said(-1);
        for (int k = 0; k < many; k++) {
            found |= 1 << x.said(k);
        }
        Check.is("said of '" + text + "'", found, which);
        Check.is("one more of '" + text + "'", x.said(many), -1);
    }

    private static void ones() {
        says("opened", 1, 2);
        says("nothing", 1, 2);
        says("watched", 1, 1);
        says("is doll", 1, 1);
        says("is cat", 1, 4);
        says("is lamp", 1, 0);
        says("in hall", 1, 3);
        says("in attic", 1, 4);
        says("size = 14", 1, 1);
        says("bulge = 2", 1, 1);
        says("turned = 1", 1, 1);
        says("number = 2", 1, 4);
        says("not opened", 2, 5);
        says("(opened)", 2, 2);
        says(" \n opened \n ", 1, 2);
    }

    private static void joined() {
        says("opened or is cat", 2, 6);
        says("in hall and not opened", 3, 1);
        says("in attic or in hall and opened", 3, 6);
        says("(in attic or in hall) and opened", 4, 2);
        says("opened and in hall or in attic", 3, 6);
        says("opened and (in hall or in attic)", 4, 2);
        says("not opened and in hall", 3, 1);
        says("not (opened and in hall)", 4, 5);
        says("not opened or opened", 3, 7);
        says("not not opened", 3, 2);
        says("number=0 or number=1 or number=2", 3, 7);
        says("number=0 and number=1 or number=2 and in attic", 4, 4);
        says("is cat or is doll or opened", 3, 7);
        says("in hall and watched and is doll and size>13", 4, 1);
    }

    private static void signs() {
        says("size<5", 1, 2);
        says("size<14", 1, 6);
        says("size>4", 1, 5);
        says("size>5", 1, 1);
        says("bulge<2", 1, 6);
        says("bulge>1", 1, 1);
        says("turned>0", 1, 1);
        says("turned<1", 1, 6);
        says("number<2", 1, 3);
        says("number>000", 1, 6);
        says("size<999", 1, 7);
    }

    private static void said() {
        WonderParcels x = made();
        Check.is("no sentence", x.said(-1), -1);
        Check.is("no sentence", x.said(0), -1);
        Check.sentence(x, "not opened");
        Check.is("how many", x.said(-1), 2);
        Check.is("the first", x.said(0), 0);
        Check.is("the next", x.said(1), 2);
        Check.is("none such", x.said(2), -1);
        Check.is("none such", x.said(-2), -1);
        Check.is("none such", x.said(Integer.MIN_VALUE), -1);
        Check.is("none such", x.said(Integer.MAX_VALUE), -1);
        x.undo();
        Check.is("as it is now", x.said(-1), 3);
        Check.is("with a fault", Check.sentence(x, "opened and"), -11);
        Check.is("it stays", x.said(-1), 3);
        Check.is("another", Check.sentence(x, "opened"), 1);
        Check.is("none, but a sentence", x.said(-1), 0);
        Check.post(x, StateTest.POST);
        Check.is("a new post has none", x.said(-1), -1);
        Check.post(x, "");
        Check.is("without parcels", Check.sentence(x, "not opened"), 2);
        Check.is("said of none", x.said(-1), 0);
    }

    private static void fault(String text, int place, int kind) {
        WonderParcels x = made();
        Check.sentence(x, "opened");
        Check.is("sentence '" + text + "'", Check.sentence(x, text), -1 - place);
        Check.is("fault of '" + text + "'", x.fault(), kind);
        Check.is("the tape is empty", x.count(6), 0);
        Check.is("the sentence stays", x.said(-1), 1);
    }

    private static void faults() {
        fault("", 0, 1);
        fault("  ", 2, 1);
        fault("lamp", 0, 1);
        fault("and", 0, 1);
        fault("idea", 0, 1);
        fault("5", 0, 1);
        fault(")", 0, 1);
        fault("()", 1, 1);
        fault("(opened", 7, 1);
        fault("opened)", 6, 1);
        fault("(opened))", 8, 1);
        fault("opened opened", 7, 1);
        fault("opened;", 6, 1);
        fault("opened or", 9, 1);
        fault("opened or or", 10, 1);
        fault("not", 3, 1);
        fault("not and", 4, 1);
        fault("is", 2, 1);
        fault("is is", 3, 1);
        fault("is 5", 3, 1);
        fault("is nobody", 3, 3);
        fault("is hall", 3, 3);
        fault("in lamp", 3, 3);
        fault("in box", 3, 3);
        fault("size", 4, 1);
        fault("size 5", 5, 1);
        fault("size (", 5, 1);
        fault("size < x", 7, 1);
        fault("size < 1000", 7, 1);
        fault("size <", 6, 1);
        fault("size < > 5", 7, 1);
        fault("Opened", 0, 1);
        fault("opened.", 6, 1);
        fault("number=0or number=1", 7, 1);
    }

    private static void limits() {
        StringBuilder twenty = new StringBuilder("nothing");
        for (int k = 1; k < 20; k++) {
            twenty.append(" or in b");
        }
        WonderParcels x = new WonderParcels();
        Check.post(x, "room b;parcel q b;");
        Check.is("20 ones", Check.sentence(x, twenty.toString()), 20);
        Check.is("a 21st", Check.sentence(x, twenty + " or in b"), -1 - twenty.length() - 4);
        Check.is("kind", x.fault(), 4);
        Check.is("a 21st that can't come", Check.sentence(x, twenty + " or b"), -1 - twenty.length() - 4);
        Check.is("kind", x.fault(), 1);
        says("not not not not not not not opened", 8, 5);
        says("(((((((opened)))))))", 8, 2);
        says("not(not(not(not opened)))", 8, 2);
        fault("not not not not not not not not opened", 32, 4);
        fault("((((((((opened))))))))", 8, 4);
        fault("(((((((not opened)))))))", 11, 4);
        fault("((((((not opened and (((nothing", 23, 4);
        fault("((((((((nobody))))))))", 8, 1);
        fault("((((((((", 8, 1);
        fault("(((((((((", 8, 4);
        // Beside one another there may be more.
        says("(((((((opened))))))) or (((((((is cat)))))))", 16, 6);
        fault("(((((((opened))))))) or (((((((is cat))))))) or ((((opened))))", 52, 4);
    }

    private static void tooLong() {
        says("opened" + " ".repeat(194), 1, 2);
        fault("opened" + " ".repeat(195), 200, 1);
        says(" ".repeat(194) + "opened", 1, 2);
        fault(" ".repeat(195) + "opened", 200, 1);
        fault(" ".repeat(197) + "openeds", 197, 1);
        fault(" ".repeat(199) + "lamp", 199, 1);
        fault(" ".repeat(200) + "lamp", 200, 1);
    }
}
