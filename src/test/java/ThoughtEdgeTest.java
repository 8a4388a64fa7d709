/** Terms, section 3: each sentence on what would go on, on TAGS, draws and a new POST that names an edge, one by one. */
public final class ThoughtEdgeTest {
    public static void main(String[] args) {
        whenNowAnd60();
        sittersFewestAndLeast();
        sittersByEight();
        sittersAsTheyAre();
        satByFourBytes();
        satByNone();
        satWithoutLeak();
        satByEight();
        askWhomNearest();
        satOfNoneLeavesThem();
        letDown();
        roomsFewestAndFirst();
        restSevenDays();
        restOfLikeOnes();
        restRounds();
        tags();
        draws();
        aNewPost();
        throwsChangeNothing();
        Check.end("ThoughtEdgeTest");
    }

    private static WonderParcels made(String post) {
        return DayEdgeTest.made(post);
    }

    /** "how many DAYS go till a PARCEL IS an IDEA (0: it does now; 60 at most)". */
    private static void whenNowAnd60() {
        WonderParcels x = made("idea b 1;idea a 60;room r;parcel k r;parcel l r;parcel m r;parcel n r;person p a 1;person o a 1;"
                + "person q a 1;person s a 1;sits p k;sits o l;sits q m;sits s n;has k a 60;has l a 59;has n b 60;");
        Check.is("now", x.when(0, 1), 0);
        Check.is("in a day", x.when(1, 1), 1);
        Check.is("in 60", x.when(2, 1), 60);
        Check.is("in 61", x.when(3, 1), -1);
        Check.is("it is b now", x.when(3, 0), 0);
        Check.is("never", x.when(0, 0), -1);
        // It is the idea on some days only: the first of them counts.
        WonderParcels y = made("idea a 2;idea b 10;room r;parcel k r;person p a 1;person o b 2;sits p k;sits o k;");
        Check.is("a from 2 to 4", y.when(0, 0), 2);
        Check.is("b from 5", y.when(0, 1), 5);
        // Both have 99 some day, and a is the first of like ones.
        y.days(60);
        Check.is("b still", y.parcel(0, 0), 1);
        Check.is("a in 39", y.when(0, 0), 39);
    }

    /** "the fewest PERSONS such that ..; of like ones the least as bits". */
    private static void sittersFewestAndLeast() {
        WonderParcels x = made("idea a 6;room r;parcel k r;parcel l r;person p a 1;person o a 2;person n a 4;person m a 6;person q a 5;has l a 6;");
        Check.is("m alone", x.sitters(0, 0, 1), 1);
        Check.is("m", x.sitting(), 8);
        WonderParcels y = made("idea a 6;room r;parcel k r;person p a 1;person o a 2;person n a 4;person m a 5;");
        Check.is("two", y.sitters(0, 0, 1), 2);
        Check.is("o and n as bits 6, p and m 9", y.sitting(), 6);
        Check.is("none need", x.sitters(1, 0, 1), 0);
        Check.is("nobody", x.sitting(), 0);
        Check.is("0 days are not thought of", x.sitters(1, 0, 0), -1);
        Check.is("nor 31", x.sitters(1, 0, 31), -1);
        Check.is("30 are", x.sitters(1, 0, 30), 0);
    }

    /** Sets of all eight PERSONS are thought of. */
    private static void sittersByEight() {
        StringBuilder post = new StringBuilder("idea a 56;idea b 1;room z;parcel k z;");
        for (char c = 'p'; c <= 'w'; c++) {
            post.append("person ").append(c).append(" a 7;");
        }
        WonderParcels x = made(post.toString());
        int[] many = {0, 8, 4, 3, 2, 2, 2, 2, 1};
        for (int k = 1; k < many.length; k++) {
            Check.is("by " + k + " days", x.sitters(0, 0, k), many[k]);
            Check.is("who", x.sitting(), (1 << many[k]) - 1);
        }
        Check.is("by none", x.sitters(0, 1, 30), -1);
        Check.is("who stays", x.sitting(), 1);
    }

    /** "if just they sat by it from now on (they by no other one, all others as they are, but not by it)". */
    private static void sittersAsTheyAre() {
        WonderParcels x = made("idea a 3;idea b 3;room r;room s;parcel k r;parcel l r;person p a 9;person o b 1;person n b 9;"
                + "sits p k;sits o l;leak 3;");
        Check.is("p goes, o leaks", x.sitters(0, 1, 1), 0);
        Check.is("nobody", x.sitting(), 0);
        Check.is("o leaks b, p gives a", x.sitters(0, 0, 1), 1);
        Check.is("p", x.sitting(), 1);
        x.carry(1, 1);
        Check.is("nothing leaks now", x.sitters(0, 1, 1), 1);
        Check.is("n", x.sitting(), 4);
        Check.is("o by no other one", x.sitters(0, 1, 3), 1);
        Check.is("o", x.sitting(), 2);
        Check.is("p sits as he did", x.person(0, 2), 0);
    }

    /** "SAT by the tape (4 bytes: a PARCEL, DAYS (1 to 30), an IDEA or 255 for nothing, how many BULGES more it has)". */
    private static void satByFourBytes() {
        WonderParcels x = made("idea a 6;idea b 6;room r;parcel k r;parcel l r;person p a 1;person o b 1;has l a 6;");
        for (int bytes = 0; bytes <= 9; bytes++) {
            Check.tape(x, new byte[bytes]);
            Check.is(bytes + " bytes", x.sat(), -1);
            Check.tape(x, java.util.Arrays.copyOf(new byte[] {1, 1, 0, 0}, bytes));
            Check.is(bytes + " bytes", x.sat(), bytes == 4 ? 3 : -1);
            Check.is("the tape is empty then", x.count(6), 0);
        }
        Check.is("parcel 2", Check.sat(x, 2, 1, 0, 0), -1);
        Check.is("parcel 128", Check.sat(x, 128, 1, 0, 0), -1);
        Check.is("parcel 255", Check.sat(x, 255, 1, 0, 0), -1);
        Check.is("0 days", Check.sat(x, 1, 0, 0, 0), -1);
        Check.is("1 day", Check.sat(x, 1, 1, 0, 0), 3);
        Check.is("30 days", Check.sat(x, 1, 30, 0, 0), 2);
        Check.is("31 days", Check.sat(x, 1, 31, 0, 0), -1);
        Check.is("255 days", Check.sat(x, 1, 255, 0, 0), -1);
        Check.is("idea 2", Check.sat(x, 1, 1, 2, 0), -1);
        Check.is("idea 254", Check.sat(x, 1, 1, 254, 0), -1);
        Check.is("nothing", Check.sat(x, 1, 1, 255, 0), 0);
        Check.is("nothing", Check.sat(x, 0, 1, 255, 0), 3);
        Check.is("1 bulge", Check.sat(x, 1, 1, 0, 1), 1);
        Check.is("2 bulges in a day", Check.sat(x, 1, 1, 0, 2), 0);
        Check.is("30 bulges", Check.sat(x, 1, 30, 0, 30), 1);
        Check.is("29 bulges", Check.sat(x, 1, 30, 0, 29), 0);
        Check.is("255 bulges", Check.sat(x, 1, 30, 0, 255), 0);
    }

    /** "sets of PERSONS (none, too) .. all others standing, if it began as it is now". */
    private static void satByNone() {
        WonderParcels x = made("idea a 6;idea b 1;room r;parcel k r;person p a 1;person o b 5;has k a 6;sits o k;sits p k;");
        Check.is("a in a day: none, p, o, not both, who bulge", Check.sat(x, 0, 1, 0, 0), 3);
        Check.is("surely", x.surely(), 0);
        Check.is("both in a day", Check.sat(x, 0, 1, 0, 1), 1);
        Check.is("surely", x.surely(), 3);
        Check.is("b in two days: o alone, without bulges", Check.sat(x, 0, 2, 1, 0), 1);
        Check.is("surely", x.surely(), 2);
        Check.is("they sit as they did", x.parcel(0, 6), 3);
        WonderParcels y = made("room r;parcel k r;");
        Check.is("without persons the empty set", Check.sat(y, 0, 30, 255, 0), 1);
        Check.is("surely nobody", y.surely(), 0);
        Check.is("ask nobody", y.ask(), -1);
    }

    /** "with 'leak' left out". */
    private static void satWithoutLeak() {
        WonderParcels x = made("idea a 5;room r;parcel k r;parcel l r;person p a 1;sits p l;leak 5;");
        Check.is("a in a day by none", Check.sat(x, 0, 1, 0, 0), 0);
        Check.is("nothing in a day", Check.sat(x, 0, 1, 255, 0), 2);
        Check.is("a in five by p", Check.sat(x, 0, 5, 0, 0), 1);
        Check.is("surely", x.surely(), 1);
    }

    /** Sets of all eight PERSONS are thought of. */
    private static void satByEight() {
        StringBuilder post = new StringBuilder("idea a 56;idea b 60;room z;parcel k z;");
        for (char c = 'p'; c <= 'v'; c++) {
            post.append("person ").append(c).append(" a 8;");
        }
        post.append("person w a 1;");
        WonderParcels x = made(post.toString());
        Check.is("seven, w or not", Check.sat(x, 0, 1, 0, 0), 2);
        Check.is("surely", x.surely(), 127);
        Check.is("ask w", x.ask(), 7);
        Check.is("all the others", Check.sat(x, 0, 1, 255, 0), 254);
        Check.is("surely", x.surely(), 0);
        Check.is("w is in 127 of 254", x.ask(), 7);
        x.wish(7, 1);
        Check.is("w and some of the others, not all", Check.sat(x, 0, 1, 255, 1), 126);
        Check.is("surely w", x.surely(), 128);
        Check.is("each other is in 63 of 126", x.ask(), 0);
        Check.is("every set is nothing or a", Check.sat(x, 0, 1, 0, 0) + Check.sat(x, 0, 1, 0, 1), 2);
    }

    /** "the PERSON who is in as many of them as not, as nearly as may be (of like ones the first)". */
    private static void askWhomNearest() {
        // At least 9 in a day: sets with n, or p and o and m.
        WonderParcels x = made("idea a 9;room r;parcel k r;person p a 3;person o a 3;person m a 3;person n a 9;");
        Check.is("eight with n, one without", Check.sat(x, 0, 1, 0, 0), 9);
        Check.is("p, o and m are in 5 of 9", x.ask(), 0);
        Check.is("surely nobody", x.surely(), 0);
        WonderParcels y = made("idea a 9;room r;parcel k r;person n a 9;person p a 3;person o a 3;person m a 3;");
        Check.is("eight with n, one without", Check.sat(y, 0, 1, 0, 0), 9);
        Check.is("not n, but the first of the others", y.ask(), 1);
        // Nearly from above and from below are like: in 1 of 3, in 2 of 3.
        WonderParcels z = made("idea a 4;room r;parcel k r;person p a 1;person o a 2;person m a 3;has k a 1;");
        Check.is("m; p and o; p and m; o and m; all", Check.sat(z, 0, 1, 0, 0), 5);
        Check.is("p in 3, o in 3, m in 4", z.ask(), 0);
        WonderParcels w = made("idea a 3;room r;parcel k r;person p a 3;person o a 1;");
        Check.is("p; p and o", Check.sat(w, 0, 1, 0, 0), 2);
        Check.is("o is in half of them", w.ask(), 1);
        Check.is("none; o", Check.sat(w, 0, 1, 255, 0), 2);
        Check.is("o is in half of them", w.ask(), 1);
        Check.is("surely nobody", w.surely(), 0);
        WonderParcels v = made("idea a 3;room r;parcel k r;person p a 2;person o a 2;");
        Check.is("none; p; o", Check.sat(v, 0, 1, 255, 0), 3);
        Check.is("each is in one of three", v.ask(), 0);
    }

    /** SURELY, ASK "by the latest sat() above 0". */
    private static void satOfNoneLeavesThem() {
        WonderParcels x = made("idea a 3;idea b 60;room r;parcel k r;parcel l r;person p a 3;person o a 1;");
        Check.is("p; p and o", Check.sat(x, 0, 1, 0, 0), 2);
        Check.is("no set", Check.sat(x, 0, 1, 1, 0), 0);
        Check.is("surely stays", x.surely(), 1);
        Check.is("ask stays", x.ask(), 1);
        Check.is("not as told", Check.sat(x, 0, 0, 0, 0), -1);
        x.open(1);
        Check.is("open", Check.sat(x, 1, 1, 255, 0), -1);
        Check.is("surely stays", x.surely(), 1);
        Check.is("ask stays", x.ask(), 1);
    }

    /** "how many right GUESSES, one behind the other, till it IS nothing". */
    private static void letDown() {
        WonderParcels x = made("idea a 10;idea b 5;room r;parcel k r;parcel l r;parcel m r;parcel n r;guess 3;"
                + "has k a 9;has l a 10;has m a 13;has n a 12;has n b 11;");
        Check.is("it is nothing", x.let(0), 0);
        Check.is("10 to 7", x.let(1), 1);
        Check.is("13 to 10 to 7", x.let(2), 2);
        // a 9, then b: 8, 5, 2.
        Check.is("one of a, three of b", x.let(3), 4);
        WonderParcels y = made("idea a 1;idea b 1;idea c 1;idea d 1;idea e 1;idea f 1;room r;parcel k r;guess 1;"
                + "has k a 99;has k b 99;has k c 99;has k d 99;has k e 99;has k f 99;");
        Check.is("as many as there may be", y.let(0), 594);
        WonderParcels z = made("idea a 60;room r;parcel k r;guess 20;has k a 99;");
        Check.is("99, 79, 59", z.let(0), 2);
        Check.is("nothing is less", z.much(0, 0), 99);
    }

    private static void roomsAre(WonderParcels x, int rooms, int... due) {
        Check.is("rooms", x.rooms(), rooms);
        for (int q = 0; q < due.length; q++) {
            Check.is("roomOf(" + q + ")", x.roomOf(q), due[q]);
        }
        Check.is("one more", x.roomOf(due.length), -1);
    }

    /** "the fewest rooms (as many as one likes) ..; the first: PARCEL by PARCEL the least number of a room, from 0". */
    private static void roomsFewestAndFirst() {
        roomsAre(new WonderParcels(), 0);
        roomsAre(made("room r;parcel k r;"), 1, 0);
        // The first parcel is not the first idea.
        roomsAre(made("idea a 1;idea b 1;room r;parcel k r;parcel l r;parcel m r;has k b 1;has l b 1;has m a 1;quarrel a b;"), 2, 0, 0, 1);
        // Nothing quarrels with nobody, nor does an idea with itself.
        roomsAre(made("idea a 5;idea b 5;room r;parcel k r;parcel l r;parcel m r;has k a 5;has l b 4;has m a 9;quarrel a b;"), 1, 0, 0, 0);
        // The least number for k, then for l, as long as two rooms are enough: l can't be with k.
        roomsAre(made("idea a 1;idea b 1;idea c 1;idea d 1;room r;parcel k r;parcel l r;parcel m r;parcel n r;"
                + "has k a 1;has l d 1;has m b 1;has n c 1;quarrel a b;quarrel b c;quarrel c d;"), 2, 0, 1, 1, 0);
        // More rooms than the post has: all six quarrel.
        StringBuilder post = new StringBuilder("idea a 1;idea b 1;idea c 1;idea d 1;idea e 1;idea f 1;room r;");
        for (int q = 0; q < 6; q++) {
            char name = (char) ('k' + q);
            post.append("parcel ").append(name).append(" r;has ").append(name).append(' ').append((char) ('f' - q)).append(" 1;");
            for (char other = 'a'; other < 'a' + q; other++) {
                post.append("quarrel ").append((char) ('a' + q)).append(' ').append(other).append(';');
            }
        }
        roomsAre(made(post.toString()), 6, 0, 1, 2, 3, 4, 5);
    }

    private static void restedAre(WonderParcels x, int rounds, int... due) {
        Check.is("rest", x.rest(), rounds);
        for (int p = 0; p < due.length; p++) {
            Check.is("rested(" + p + ")", x.rested(p), due[p]);
        }
        Check.is("one more", x.rested(due.length), -1);
    }

    /** "it would have most of what he WISHES behind 7 DAYS, if it IS that then (if it is not: 0)". */
    private static void restSevenDays() {
        // 3 and 7 times 8 are 59, too little; 4 and 56 are 60.
        restedAre(made("idea a 60;room r;parcel k r;parcel l r;person p a 8;has k a 3;has l a 4;"), 2, 1);
        restedAre(made("idea a 60;room r;parcel k r;parcel l r;person p a 8;has k a 3;sits p l;"), 1, 1);
        restedAre(made("idea a 60;room r;parcel k r;parcel l r;person p a 8;has k a 4;sits p l;"), 2, 0);
        // It is a only if there is not more of b: 15 and 7 are 22.
        restedAre(made("idea a 1;idea b 1;room r;parcel k r;parcel l r;person p a 1;has k a 15;has k b 22;"), 2, 0);
        restedAre(made("idea b 1;idea a 1;room r;parcel k r;parcel l r;person p a 1;has k a 15;has k b 22;"), 2, 1);
        // 99 at most: the third would have 99 and 9, but they are like.
        restedAre(made("idea a 1;room r;parcel k r;parcel l r;parcel m r;person p a 9;has k a 35;has l a 36;has m a 99;"), 2, 1);
    }

    /** "the PARCEL that is not open ..; of like ones where he sits, then the least". */
    private static void restOfLikeOnes() {
        WonderParcels x = made("idea a 60;room r;parcel k r;parcel l r;parcel m r;person p a 1;person o a 1;person n a 1;sits o l;sits n m;");
        restedAre(x, 2, 0, 1, 2);
        x.open(0);
        restedAre(x, 2, 1, 1, 2);
        x.open(2);
        restedAre(x, 2, 1, 1, 1);
        x.open(1);
        restedAre(x, 1, -1, 1, 2);
        restedAre(made("idea a 60;person p a 1;"), 1, -1);
        restedAre(made("room r;parcel k r;"), 1);
        WonderParcels y = made("idea a 60;room r;parcel k r;person p a 1;sits p k;");
        restedAre(y, 1, 0);
    }

    /** "till a ROUND in which nobody changes; 10 ROUNDS at most"; "(that in which nobody changes counted)". */
    private static void restRounds() {
        restedAre(new WonderParcels(), 1);
        // The first changes, the last does not: that ROUND is not the last.
        restedAre(made("idea a 60;room r;parcel k r;person p a 1;person o a 1;sits o k;"), 2, 0, 0);
        // Each gets more leaked than he gives: k is left as soon as it is joined, for ever.
        restedAre(made("idea a 6;room r;parcel k r;parcel l r;person p a 2;person o a 7;leak 3;"), 10, 1, 0);
        StringBuilder post = new StringBuilder("idea a 1;room z;parcel k z;parcel l z;has l a 1;");
        for (char c = 'p'; c <= 'w'; c++) {
            post.append("person ").append(c).append(" a 1;");
        }
        restedAre(made(post.toString()), 2, 1, 1, 1, 1, 1, 1, 1, 1);
    }

    /** "its NAME, then ' is ' and the NAME of the IDEA that it IS, or ' is nothing'; behind it ' at last', if it is open". */
    private static void tags() {
        WonderParcels x = made("idea abcdefg 5;idea z 1;room r;parcel hijklmn r;parcel y r;parcel o r;has hijklmn abcdefg 5;has y z 1;has o abcdefg 4;");
        String[] due = {"hijklmn is abcdefg", "y is z", "o is nothing"};
        for (int q = 0; q < due.length; q++) {
            Check.is("bytes", x.tag(q), due[q].length());
            Check.is("tag", Check.tag(x, q), due[q]);
            Check.is("a byte more", x.byteAt(due[q].length()), -1);
            x.open(q);
            Check.is("bytes", x.tag(q), due[q].length() + 8);
            Check.is("tag", Check.tag(x, q), due[q] + " at last");
            Check.is("the last byte", x.byteAt(due[q].length() + 7), 't');
            Check.is("a byte more", x.byteAt(due[q].length() + 8), -1);
        }
    }

    private static int drawSeed;

    private static int draw(int n) {
        drawSeed = drawSeed * 1103515245 + 12345;
        return (drawSeed >>> 8) % n;
    }

    /** Draws as the document tells, with so many parcels and ideas; all persons wish idea 0 and stand at first. */
    private static void drawsAre(int parcels, int ideas, int days, int seed) {
        StringBuilder post = new StringBuilder("room r;");
        for (int i = 0; i < ideas; i++) {
            post.append("idea ").append((char) ('a' + i)).append(" 1;");
        }
        for (int q = 0; q < parcels; q++) {
            post.append("parcel ").append((char) ('k' + q)).append(" r;");
        }
        WonderParcels x = made(post + "person p a 1;person s a 2;person t a 3;");
        Check.is("drawn", x.drawn(days, seed), days);
        int[] seat = {-1, -1, -1};
        int[] wish = new int[3];
        int[] all = new int[6];
        drawSeed = seed;
        for (int day = 0; day < days; day++) {
            for (int p = 0; p < 3; p++) {
                int what = draw(8);
                if (what == 0) {
                    seat[p] = -1;
                } else if (what == 1 && parcels > 0) {
                    seat[p] = draw(parcels);
                } else if (what == 2) {
                    wish[p] = draw(ideas);
                }
            }
            for (int p = 0; p < 3; p++) {
                if (seat[p] >= 0) {
                    all[seat[p]] += p + 1;
                }
            }
        }
        for (int p = 0; p < 3; p++) {
            Check.is("where he sits, drawn by " + seed, x.person(p, 2), seat[p]);
            Check.is("what he wishes, drawn by " + seed, x.person(p, 0), wish[p]);
        }
        for (int q = 0; q < parcels; q++) {
            Check.is("all that it has, drawn by " + seed, x.parcel(q, 2), all[q]);
        }
    }

    /** "for each draw of n x becomes x * 1103515245 + 12345 (an int, wrapping) ..": also a draw of 1; none of no PARCELS. */
    private static void draws() {
        int[] seeds = {0, 1, -1, 2, 77, 123456789, Integer.MAX_VALUE, Integer.MIN_VALUE};
        for (int seed : seeds) {
            for (int parcels = 0; parcels <= 4; parcels++) {
                drawsAre(parcels, 1, 12, seed);
                drawsAre(parcels, 5, 12, seed);
            }
            drawsAre(1, 1, 1, seed);
        }
    }

    /** "A new POST: DAY 0, nothing open, no BULGES, no SENTENCE." */
    private static void aNewPost() {
        String post = "idea a 1;idea b 1;room r;room s;parcel k r;person p a 1;person o b 1;sits p k;sits o k;";
        WonderParcels x = made(post);
        Check.is("a book", Check.book(x, "day 2;p guesses a;p guesses b;p guesses a;o wishes a;carry k s;open k;", 1), -1);
        Check.sentence(x, "opened");
        Check.is("bulged, turned, guessed", x.now(5) * 100 + x.now(6) * 10 + x.person(0, 3) + x.person(0, 4), 213);
        Check.is("the post again", Check.post(x, post), 9);
        for (int what : new int[] {0, 1, 4, 5, 6}) {
            Check.is("now(" + what + ")", x.now(what), 0);
        }
        Check.is("nothing yet", x.now(2), 1);
        Check.is("sat by", x.parcel(0, 6), 3);
        Check.is("its room", x.parcel(0, 1), 0);
        Check.is("not open", x.parcel(0, 4), 0);
        Check.is("not turned", x.parcel(0, 5), 0);
        Check.is("no guess", x.person(0, 3) + x.person(0, 4) + x.person(1, 3) + x.person(1, 4), 0);
        Check.is("what he wishes", x.person(1, 0), 1);
        Check.is("no sentence", x.said(-1), -1);
        Check.is("nothing is undone", x.undo(), -1);
        // The same behind draws, and for a post without those lines.
        x.drawn(60, 5);
        x.odds(0, 0, 3, 5);
        Check.is("a smaller post", Check.post(x, "idea a 1;room r;parcel k r;person p a 1;"), 4);
        for (int what : new int[] {0, 1, 3, 4, 5, 6}) {
            Check.is("now(" + what + ")", x.now(what), 0);
        }
        Check.is("he stands", x.person(0, 2), -1);
        Check.is("no quarrel", x.quarrels(0), 0);
    }

    /** "A call that throws changes nothing." */
    private static void throwsChangeNothing() {
        WonderParcels x = made("idea a 1;room r;parcel k r;person p a 1;sits p k;");
        x.days(2);
        Check.sentence(x, "watched");
        x.tag(0);
        x.feed(1, 2, 3, 4, 5);
        int[] odd = {Integer.MIN_VALUE, -1, 1, 7, Integer.MAX_VALUE};
        for (int k : odd) {
            Check.is("parcel(" + k + ", 0) throws", Check.parcel(x, k, 0), -99);
            Check.is("person(" + k + ", 0) throws", Check.person(x, k, 0), -99);
            Check.is("parcel(" + k + ", 7) throws", Check.parcel(x, k, 7), -99);
            Check.is("person(" + k + ", 5) throws", Check.person(x, k, 5), -99);
        }
        Check.is("the day", x.now(0), 2);
        Check.is("all", x.now(4), 2);
        Check.is("said", x.said(-1), 1);
        Check.is("the tape", x.count(6), 20);
        Check.is("the tag", x.byteAt(0), 'k');
        Check.is("no fault", x.fault(), 0);
        Check.is("undo", x.undo(), 0);
    }
}
