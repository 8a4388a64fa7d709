/** Terms, section 2: each sentence on what a PARCEL has and IS, on acts and on DAYS that names an edge, one by one. */
public final class DayEdgeTest {
    public static void main(String[] args) {
        ninetyNineAtMost();
        asMuchAsItsNeed();
        ofLikeOnesTheFirst();
        heSitsByIt();
        heSitsByNone();
        heDoesWishIt();
        whyHeCannotGuess();
        rightGuesses();
        wrongGuesses();
        opening();
        carrying();
        daysTo400();
        openOnesGrowNoMore();
        leakInItsRoom();
        bulges();
        bulgesAtMost();
        turned();
        eightPersonsSixParcels();
        Check.end("DayEdgeTest");
    }

    static WonderParcels made(String post) {
        WonderParcels x = new WonderParcels();
        Check.is("post '" + post + "'", Check.post(x, post) > 0, true);
        return x;
    }

    static void toDay(WonderParcels x, int day) {
        for (int k = 0; k < 8 && x.now(0) < day; k++) {
            x.days(Math.min(60, day - x.now(0)));
        }
        Check.is("the day", x.now(0), day);
    }

    /** "A PARCEL has so much of each IDEA (99 at most)." */
    private static void ninetyNineAtMost() {
        WonderParcels x = made("idea a 60;room r;parcel k r;parcel l r;parcel m r;parcel n r;person p a 2;person o a 1;"
                + "has k a 96;has l a 97;has m a 98;has n a 99;leak 1;sits p k;sits o k;");
        x.days(1);
        Check.is("96 and 3", x.much(0, 0), 99);
        Check.is("97 and leak of two", x.much(1, 0), 99);
        Check.is("98 and leak of two", x.much(2, 0), 99);
        Check.is("99 and leak of two", x.much(3, 0), 99);
        WonderParcels y = made("idea a 60;idea b 1;room r;parcel k r;person p b 9;has k a 98;has k b 99;sits p k;");
        Check.is("98: wrong", y.guess(0, 0), 0);
        Check.is("99", y.much(0, 0), 99);
        Check.is("like b, and the first", y.parcel(0, 0), 0);
        Check.is("of b: wrong", y.guess(0, 1), 0);
        Check.is("99 at most", y.much(0, 1), 99);
        y.days(60);
        Check.is("99 at most", y.much(0, 1), 99);
        Check.is("all that it has", y.parcel(0, 2), 198);
    }

    /** "of those of which it has as much as that one's NEED, at least (.. none: nothing)". */
    private static void asMuchAsItsNeed() {
        WonderParcels x = made("idea a 10;idea b 1;idea c 60;room r;parcel k r;parcel l r;parcel m r;parcel n r;parcel o r;"
                + "has k a 9;has l a 10;has m a 11;has n a 9;has n b 1;has n c 59;has o c 60;");
        int[] due = {-1, 0, 0, 1, 2};
        for (int q = 0; q < due.length; q++) {
            Check.is("what parcel " + q + " is", x.parcel(q, 0), due[q]);
        }
        Check.is("which are nothing", x.now(2), 1);
        WonderParcels y = made("room r;parcel k r;");
        Check.is("without ideas it is nothing", y.parcel(0, 0), -1);
        Check.is("and has nothing", y.parcel(0, 2), 0);
    }

    /** "of like ones the first". */
    private static void ofLikeOnesTheFirst() {
        WonderParcels x = made("idea a 9;idea b 5;idea c 5;room r;parcel k r;parcel l r;parcel m r;"
                + "has k c 8;has k b 8;has k a 8;has l c 9;has l b 9;has l a 9;has m b 8;has m c 9;");
        Check.is("b and c are like, a is too little", x.parcel(0, 0), 1);
        Check.is("all are like", x.parcel(1, 0), 0);
        Check.is("c is most", x.parcel(2, 0), 2);
    }

    /** "To SIT by a PARCEL: why not: 1 he sits by it (by another one he does no more then)." */
    private static void heSitsByIt() {
        WonderParcels x = made("idea a 9;room r;parcel k r;parcel l r;person p a 1;");
        Check.is("who stands", x.sit(0, 0), 0);
        Check.is("he sits by it", x.sit(0, 0), 1);
        Check.is("by another", x.sit(0, 1), 0);
        Check.is("no more by the first", x.parcel(0, 6), 0);
        Check.is("by the other", x.parcel(1, 6), 1);
        x.open(0);
        Check.is("by an open one", x.sit(0, 0), 0);
        Check.is("he sits by it, and it is open", x.sit(0, 0), 1);
    }

    /** "To STAND: 1 he sits by none." */
    private static void heSitsByNone() {
        WonderParcels x = made("idea a 9;room r;parcel k r;person p a 1;sits p k;");
        x.open(0);
        Check.is("by an open one", x.stand(0), 0);
        Check.is("he sits by none", x.stand(0), 1);
        Check.is("where", x.person(0, 2), -1);
    }

    /** "To WISH an IDEA: 1 he does." */
    private static void heDoesWishIt() {
        WonderParcels x = made("idea a 9;idea b 9;person p b 1;");
        Check.is("he does", x.wish(0, 1), 1);
        Check.is("another", x.wish(0, 0), 0);
        Check.is("he does", x.wish(0, 0), 1);
        Check.is("what", x.person(0, 0), 0);
    }

    /** "To GUESS ..: 1 he sits by none; 2 it is open". */
    private static void whyHeCannotGuess() {
        WonderParcels x = made("idea a 9;room r;parcel k r;person p a 1;has k a 9;");
        Check.is("he sits by none", x.guess(0, 0), -2);
        x.sit(0, 0);
        x.open(0);
        Check.is("it is open", x.guess(0, 0), -3);
        x.stand(0);
        Check.is("he sits by none", x.guess(0, 0), -2);
        Check.is("nothing less", x.much(0, 0), 9);
        Check.is("no guess", x.person(0, 3) + x.person(0, 4), 0);
    }

    /** "if it IS that one, it is right, and it has 'guess' less of it (0 at least)". */
    private static void rightGuesses() {
        for (int has = 1; has <= 9; has++) {
            WonderParcels x = made("idea a 1;room r;parcel k r;person p a 1;sits p k;guess 4;has k a " + has + ";");
            Check.is("right", x.guess(0, 0), 1);
            Check.is(has + " less 4", x.much(0, 0), has < 4 ? 0 : has - 4);
            Check.is("guessed right", x.person(0, 3), 1);
        }
        WonderParcels y = made("idea a 60;room r;parcel k r;person p a 1;sits p k;guess 20;has k a 99;");
        Check.is("right", y.guess(0, 0), 1);
        Check.is("right", y.guess(0, 0), 1);
        Check.is("59 is too little: wrong", y.guess(0, 0), 0);
        Check.is("1 more, and it is", y.guess(0, 0), 1);
        Check.is("60 less 20", y.much(0, 0), 40);
    }

    /** "else it is wrong, and it has 1 more of it". */
    private static void wrongGuesses() {
        WonderParcels x = made("idea a 3;idea b 2;room r;parcel k r;person p a 1;sits p k;has k a 2;");
        Check.is("most, but too little", x.guess(0, 0), 0);
        Check.is("3 now", x.parcel(0, 0), 0);
        Check.is("not that one", x.guess(0, 1), 0);
        Check.is("1 more", x.much(0, 1), 1);
        Check.is("guessed wrong", x.person(0, 4), 2);
        Check.is("right", x.guess(0, 0), 1);
        Check.is("0", x.much(0, 0), 0);
        Check.is("guessed right", x.person(0, 3), 1);
    }

    /** "To OPEN a PARCEL: 1 it is." */
    private static void opening() {
        WonderParcels x = made("room r;parcel k r;parcel l r;");
        Check.is("not yet", x.parcel(0, 4), 0);
        Check.is("open", x.open(0), 0);
        Check.is("it is", x.open(0), 1);
        Check.is("open", x.parcel(0, 4), 1);
        Check.is("the other is not", x.parcel(1, 4), 0);
    }

    /** "To CARRY it to a ROOM: 1 it is open; 2 it is there." */
    private static void carrying() {
        WonderParcels x = made("room r;room s;parcel k r;");
        Check.is("it is there", x.carry(0, 0), 2);
        Check.is("elsewhere", x.carry(0, 1), 0);
        Check.is("it is there now", x.carry(0, 1), 2);
        Check.is("back", x.carry(0, 0), 0);
        x.open(0);
        Check.is("it is open", x.carry(0, 1), 1);
        Check.is("open, and there", x.carry(0, 0), 1);
        Check.is("where it was", x.parcel(0, 1), 0);
    }

    /** "A DAY (0 to 399; 400: all are over) goes". */
    private static void daysTo400() {
        WonderParcels x = made("idea a 1;idea b 1;room r;parcel k r;person p a 1;person o b 1;");
        toDay(x, 399);
        x.sit(0, 0);
        x.sit(1, 0);
        Check.is("the last one", x.days(2), 1);
        Check.is("400", x.now(0), 400);
        Check.is("it grew", x.much(0, 0), 1);
        Check.is("it bulged", x.parcel(0, 3), 1);
        Check.is("it turned", x.parcel(0, 5), 1);
        Check.is("all are over", x.days(1), 0);
        Check.is("all are over", x.days(60), 0);
        Check.is("400", x.now(0), 400);
        Check.is("it grows no more", x.much(0, 0), 1);
        // Acts go on.
        Check.is("a guess", x.guess(0, 0), 1);
        Check.is("open", x.open(0), 0);
    }

    /** "who sits by a PARCEL that is not open", "each other PARCEL .. that is not open", "each PARCEL that is not open and by which sit two". */
    private static void openOnesGrowNoMore() {
        WonderParcels x = made("idea a 1;idea b 1;room r;parcel k r;parcel l r;parcel m r;person p a 1;person o b 2;person n a 3;"
                + "sits p k;sits o k;sits n l;leak 1;");
        x.open(0);
        x.days(1);
        Check.is("the open one has nothing", x.parcel(0, 2), 0);
        Check.is("no bulge", x.parcel(0, 3), 0);
        Check.is("not turned", x.parcel(0, 5), 0);
        Check.is("n alone gives l", x.much(1, 0), 3);
        Check.is("nothing leaks from the open one", x.much(1, 1), 0);
        Check.is("n leaks to m", x.much(2, 0), 1);
        Check.is("o does not", x.much(2, 1), 0);
    }

    /** "each other PARCEL in its ROOM that is not open 'leak' more". */
    private static void leakInItsRoom() {
        WonderParcels x = made("idea a 1;idea b 1;room r;room s;parcel k r;parcel l r;parcel m s;person p b 4;sits p k;leak 5;");
        x.days(1);
        Check.is("it has keen, no leak", x.much(0, 1), 4);
        Check.is("another in its room", x.much(1, 1), 5);
        Check.is("of what he wishes alone", x.much(1, 0), 0);
        Check.is("in another room", x.much(2, 1), 0);
        x.carry(0, 1);
        x.days(1);
        Check.is("in its room now", x.much(2, 1), 5);
        Check.is("not any more", x.much(1, 1), 5);
        WonderParcels y = made("idea a 1;room r;parcel k r;parcel l r;person p a 4;sits p k;leak 0;");
        y.days(60);
        Check.is("leak 0", y.much(1, 0), 0);
        Check.is("not turned", y.parcel(1, 5), 0);
    }

    /** "by which sit two who WISH unlike IDEAS has a BULGE more". */
    private static void bulges() {
        WonderParcels x = made("idea a 60;idea b 60;idea c 60;room r;parcel k r;parcel l r;parcel m r;parcel n r;parcel o r;"
                + "person s a 1;person t b 1;person u a 1;person v a 1;person w a 1;person y b 1;person z c 1;person zz b 1;"
                + "sits s k;sits t l;sits u m;sits v m;sits w n;sits y n;sits z n;sits zz n;leak 3;");
        x.days(1);
        int[] due = {0, 0, 0, 1, 0};
        for (int q = 0; q < due.length; q++) {
            Check.is("bulge of " + q, x.parcel(q, 3), due[q]);
        }
        Check.is("all bulges", x.now(5), 1);
        x.wish(3, 1);
        x.days(1);
        Check.is("two who wish unlike now", x.parcel(2, 3), 1);
        // The unlike one may be the first or the last.
        x.wish(3, 0);
        x.sit(0, 2);
        x.wish(0, 2);
        x.days(1);
        Check.is("the first is unlike", x.parcel(2, 3), 2);
        x.wish(0, 0);
        x.days(1);
        Check.is("all like", x.parcel(2, 3), 2);
        x.sit(7, 2);
        x.days(1);
        Check.is("the last is unlike", x.parcel(2, 3), 3);
    }

    /** "has a BULGE more (99 at most)". */
    private static void bulgesAtMost() {
        WonderParcels x = made("idea a 60;idea b 60;room r;parcel k r;person p a 1;person o b 1;sits p k;sits o k;");
        toDay(x, 98);
        Check.is("98", x.parcel(0, 3), 98);
        x.days(1);
        Check.is("99", x.parcel(0, 3), 99);
        x.days(1);
        Check.is("99 at most", x.parcel(0, 3), 99);
        x.days(60);
        Check.is("99 at most", x.now(5), 99);
    }

    /** "Each PARCEL that IS another one (or nothing, or not nothing any more) than at the DAY's beginning has TURNED once more." */
    private static void turned() {
        WonderParcels x = made("idea a 4;idea b 4;room r;parcel k r;parcel l r;person p a 2;person o b 5;sits p k;leak 1;");
        int[] dueFirst = {0, 1, 1, 1};
        int[] dueOther = {0, 0, 0, 1};
        for (int day = 0; day < 4; day++) {
            x.days(1);
            Check.is("turned by p", x.parcel(0, 5), dueFirst[day]);
            Check.is("turned by what leaks", x.parcel(1, 5), dueOther[day]);
        }
        x.stand(0);
        x.sit(1, 0);
        x.days(1);
        Check.is("a 8, b 5", x.parcel(0, 5), 1);
        x.days(1);
        Check.is("a 8, b 10: another", x.parcel(0, 5), 2);
        Check.is("the other has a 4, b 2", x.parcel(1, 5), 1);
        x.days(2);
        Check.is("like ones: still the first", x.parcel(1, 0), 0);
        x.days(1);
        Check.is("b 5: another", x.parcel(1, 5), 2);
        Check.is("all", x.now(6), 4);
        // In one day it turns once, however many give it something.
        WonderParcels y = made("idea a 1;idea b 1;room r;parcel k r;person p a 1;person o b 2;person n a 9;sits p k;sits o k;sits n k;");
        y.days(1);
        Check.is("once", y.parcel(0, 5), 1);
        y.days(60);
        Check.is("it is a", y.parcel(0, 5), 1);
    }

    /** All that there may be at once. */
    private static void eightPersonsSixParcels() {
        WonderParcels x = made(TextEdgeTest.FULL + "sits q k;sits r l;sits s m;sits t n;sits u o;sits v p;sits w p;sits x p;leak 2;");
        x.days(1);
        // k and o are in room g, l and p in h, m in i, n in j.
        int[][] due = {
            {1, 0, 0, 0, 2, 0}, {2, 4, 0, 0, 0, 2}, {0, 0, 3, 0, 0, 0}, {0, 0, 0, 4, 0, 0}, {2, 0, 0, 0, 5, 0}, {7, 10, 0, 0, 0, 6}};
        for (int q = 0; q < 6; q++) {
            for (int i = 0; i < 6; i++) {
                Check.is("much(" + q + ", " + i + ")", x.much(q, i), due[q][i]);
            }
            Check.is("bulge of " + q, x.parcel(q, 3), q == 5 ? 1 : 0);
        }
        Check.is("who sits by the last", x.parcel(5, 6), 224);
        Check.is("by which somebody sits", x.now(3), 63);
        Check.is("all that all have", x.now(4), 48);
        Check.is("which are nothing", x.now(2), 0);
        Check.is("turned", x.now(6), 6);
        Check.is("bulges", x.now(5), 1);
        Check.is("none is open", x.now(1), 0);
        for (int q = 0; q < 6; q++) {
            x.open(q);
        }
        Check.is("all are open", x.now(1), 63);
    }
}
