/** Terms, section 1: each sentence on TOKENS, POST, BOOK, SENTENCE and FAULTS that names an edge, one by one. */
public final class TextEdgeTest {
    private static final String[] WORDS = ("idea room parcel person sits has quarrel leak guess"
            + " joins stands wishes guesses open carry day"
            + " or and not opened nothing watched is in size bulge turned number").split(" ");

    /** As many of each sort as there may be: ideas a to f, rooms g to j, parcels k to p, persons q to x; 252 bytes. */
    static final String FULL = "idea a 1;idea b 2;idea c 3;idea d 4;idea e 5;idea f 6;room g;room h;room i;room j;"
            + "parcel k g;parcel l h;parcel m i;parcel n j;parcel o g;parcel p h;"
            + "person q a 1;person r b 2;person s c 3;person t d 4;person u e 5;person v f 6;person w a 7;person x b 8;";

    /** Ideas a, b; room r; parcels k, l; persons p, o: 73 bytes, 7 lines. */
    private static final String SMALL = "idea a 5;idea b 6;room r;parcel k r;parcel l r;person p a 1;person o b 2;";

    public static void main(String[] args) {
        blanksBetween();
        everyByte();
        lengthsOfWordsAndNumbers();
        runsOfLettersAndDigits();
        bytesOfAPost();
        numbersOfAPost();
        onceAndWithout();
        namesThatMayNotBe();
        toldOnce();
        ofAnotherSort();
        howManyOfASort();
        bytesOfABook();
        linesOfABook();
        numbersOfABook();
        bytesOfASentence();
        onesOfASentence();
        withinOneAnother();
        numbersOfASentence();
        theFirstAlongTheText();
        ofOneTokenTheLeast();
        theEnd();
        readWhole();
        Check.end("TextEdgeTest");
    }

    private static void postFits(String text, int lines) {
        WonderParcels x = new WonderParcels();
        Check.is("post '" + text + "'", Check.post(x, text), lines);
        Check.is("fault of '" + text + "'", x.fault(), 0);
    }

    private static void postFault(String text, int place, int kind) {
        WonderParcels x = new WonderParcels();
        Check.is("post '" + text + "'", Check.post(x, text), -1 - place);
        Check.is("fault of '" + text + "'", x.fault(), kind);
        Check.is("the tape is empty then", x.count(6), 0);
        Check.is("the post stays", x.count(0) + x.count(1) + x.count(2) + x.count(3), 0);
    }

    private static WonderParcels small() {
        WonderParcels x = new WonderParcels();
        Check.is("post", Check.post(x, SMALL), 7);
        return x;
    }

    private static void bookFits(String text, int lines) {
        WonderParcels x = small();
        Check.is("book '" + text + "'", Check.book(x, text, 0), -1);
        Check.is("lines of '" + text + "'", x.told(1), lines);
        Check.is("fault of '" + text + "'", x.fault(), 0);
    }

    private static void bookFault(String text, int place, int kind) {
        WonderParcels x = small();
        Check.is("book '" + text + "'", Check.book(x, text, 1), -2 - place);
        Check.is("fault of '" + text + "'", x.fault(), kind);
        Check.is("the tape is empty then", x.count(6), 0);
        Check.is("nothing was lived", x.now(0), 0);
    }

    private static void sentenceFits(String text, int ones) {
        WonderParcels x = small();
        Check.is("sentence '" + text + "'", Check.sentence(x, text), ones);
        Check.is("fault of '" + text + "'", x.fault(), 0);
    }

    private static void sentenceFault(String text, int place, int kind) {
        WonderParcels x = small();
        Check.is("sentence '" + text + "'", Check.sentence(x, text), -1 - place);
        Check.is("fault of '" + text + "'", x.fault(), kind);
        Check.is("the tape is empty then", x.count(6), 0);
        Check.is("no sentence", x.said(-1), -1);
    }

    private static String blanks(int n) {
        return " ".repeat(n);
    }

    /** "TOKENS of all texts, with blanks (32, 10) between them or not". */
    private static void blanksBetween() {
        postFits("room a;room b;", 2);
        postFits("\n room \n\n a \n;\n room\nb ; \n", 2);
        bookFits("day 1;day 2;", 2);
        bookFits("\nday\n1\n;\nday  2 ;\n ", 2);
        sentenceFits("not(size<5)or(number=1)", 5);
        sentenceFits("\n not ( size < 5 ) \n or ( number = 1 ) \n", 5);
        for (char c : new char[] {0, 9, 11, 12, 13, 31, 33, 160}) {
            postFault("room" + c + "a;", 4, 1);
            bookFault("day 1;" + c, 6, 1);
            sentenceFault(c + "opened", 0, 1);
        }
    }

    /** "small letters", "digits", the signs: each byte there is, where a NAME and where a NUMBER is due. */
    private static void everyByte() {
        for (int c = 0; c < 256; c++) {
            boolean letter = c >= 'a' && c <= 'z';
            boolean digit = c >= '0' && c <= '9';
            boolean blank = c == 32 || c == 10;
            String named = "room " + (char) c + ";";
            String many = "leak " + (char) c + ";";
            if (letter) {
                postFits(named, 1);
            } else {
                postFault(named, blank ? 6 : 5, 1);
            }
            if (digit && c <= '5') {
                postFits(many, 1);
            } else {
                postFault(many, blank ? 6 : 5, digit ? 2 : 1);
            }
        }
    }

    /** "WORDS: small letters, 1 to 7; NUMBERS: 1 to 3 digits". */
    private static void lengthsOfWordsAndNumbers() {
        postFits("room a;room az;room abcdefg;room bcdefgh;", 4);
        postFault("room abcdefgh;", 5, 1);
        postFault("room abcdefghabcdefghabcdefgh;", 5, 1);
        // Seven letters are told apart by the first and by the last.
        postFits("room abcdefg;room bbcdefg;room abcdefa;room bcdefg;", 4);
        postFault("room abcdefg;room abcdefg;", 18, 3);
        postFits("idea a 7;idea b 07;idea c 007;", 3);
        postFault("idea a 0007;", 7, 1);
        postFault("idea a 4294967303;", 7, 1);
        bookFits("day 060;", 1);
        bookFault("day 0060;", 4, 1);
        sentenceFits("size<999", 1);
        sentenceFault("size<0999", 5, 1);
    }

    /** "A WORD, NUMBER goes on as long as small letters and digits do; what is not as told is no TOKEN." */
    private static void runsOfLettersAndDigits() {
        postFault("room a1;", 5, 1);
        postFault("room 1a;", 5, 1);
        postFault("room1 a;", 0, 1);
        postFault("1room a;", 0, 1);
        postFault("idea a5;", 5, 1);
        postFault("idea a 5room b;", 7, 1);
        postFault("roomroom a;", 0, 1);
        postFault("rooms a;", 0, 1);
        bookFault("day1;", 0, 1);
        bookFault("p stands1;", 2, 1);
        sentenceFault("size<5or opened", 5, 1);
        sentenceFault("notopen", 0, 1);
        sentenceFault("size 5", 5, 1);
        sentenceFault("size<=5", 5, 1);
        sentenceFault("opened.", 6, 1);
    }

    /** "A POST is a text of at most 900 bytes: { LINE ; }." */
    private static void bytesOfAPost() {
        postFits("", 0);
        postFits(" ", 0);
        postFits(blanks(900), 0);
        postFault(blanks(901), 900, 1);
        postFault(blanks(940), 900, 1);
        postFits("room a;" + blanks(893), 1);
        postFits(blanks(893) + "room a;", 1);
        postFault("room a;" + blanks(894), 900, 1);
        postFault(blanks(894) + "room a;", 900, 1);
        postFault(blanks(893) + "room a;room b;", 900, 1);
        postFault(blanks(893) + "room a;?", 900, 1);
        postFault(";", 0, 1);
        postFault("room a;;", 7, 1);
        postFault("room a", 6, 1);
    }

    /** "NEED (1 to 60)", "KEEN (.. 1 to 9)", "N (1 to 99 ..)", "'leak' N (0 to 5 ..)", "'guess' N (1 to 20 ..)". */
    private static void numbersOfAPost() {
        postFault("idea a 0;", 7, 2);
        postFits("idea a 1;idea b 60;", 2);
        postFault("idea a 61;", 7, 2);
        postFault("idea a 999;", 7, 2);
        postFault("idea a 5;person p a 0;", 20, 2);
        postFits("idea a 5;person p a 1;person o a 9;", 3);
        postFault("idea a 5;person p a 10;", 20, 2);
        postFault(SMALL + "has k a 0;", 81, 2);
        postFits(SMALL + "has k a 1;has k b 99;", 9);
        postFault(SMALL + "has k a 100;", 81, 2);
        postFits("leak 0;", 1);
        postFits("leak 5;", 1);
        postFault("leak 6;", 5, 2);
        postFault("guess 0;", 6, 2);
        postFits("guess 1;", 1);
        postFits("guess 20;", 1);
        postFault("guess 21;", 6, 2);
        WonderParcels x = new WonderParcels();
        Check.post(x, "idea a 1;idea b 60;room r;parcel k r;person p a 1;person o a 9;has k a 1;has k b 99;leak 5;guess 20;");
        Check.is("need 1", x.need(0), 1);
        Check.is("need 60", x.need(1), 60);
        Check.is("keen 1", x.person(0, 1), 1);
        Check.is("keen 9", x.person(1, 1), 9);
        Check.is("has 1", x.much(0, 0), 1);
        Check.is("has 99", x.much(0, 1), 99);
        Check.is("leak 5", x.count(4), 5);
        Check.is("guess 20", x.count(5), 20);
    }

    /** "each PERSON once", "each two once; 0 without", "unlike; each two once, in whatever order", "once; 0 without", "once; 5 without". */
    private static void onceAndWithout() {
        postFits(SMALL + "sits p k;sits o k;", 9);
        postFault(SMALL + "sits p k;sits p k;", 87, 3);
        postFault(SMALL + "sits p k;sits p l;", 87, 3);
        postFits(SMALL + "has k a 1;has k b 1;has l a 1;has l b 1;", 11);
        postFault(SMALL + "has k a 1;has k b 1;has k a 1;", 99, 3);
        postFault(SMALL + "quarrel a a;", 83, 3);
        postFault(SMALL + "quarrel a b;quarrel a b;", 95, 3);
        postFault(SMALL + "quarrel a b;quarrel b a;", 95, 3);
        postFits(SMALL + "idea c 1;quarrel a b;quarrel c b;quarrel a c;", 11);
        postFault("leak 0;leak 0;", 7, 3);
        postFault("leak 2;room r;leak 3;", 14, 3);
        postFault("guess 5;guess 5;", 8, 3);
        postFault("guess 2;room r;guess 3;", 15, 3);
        WonderParcels x = small();
        Check.is("has 0 without", x.much(0, 0) + x.much(1, 1), 0);
        Check.is("quarrels with none", x.quarrels(0) + x.quarrels(1), 0);
        Check.is("sits by none", x.person(0, 2), -1);
        Check.is("leak 0 without", x.count(4), 0);
        Check.is("guess 5 without", x.count(5), 5);
        // What one post told is not told in the next.
        Check.is("leak, guess", Check.post(x, "leak 3;guess 7;"), 2);
        Check.is("leak", x.count(4), 3);
        Check.is("leak, guess again", Check.post(x, "guess 8;leak 4;"), 2);
        Check.is("guess", x.count(5), 8);
        Check.is("neither", Check.post(x, ""), 0);
        Check.is("leak 0 without", x.count(4), 0);
        Check.is("guess 5 without", x.count(5), 5);
    }

    /** "NAME: a WORD, none of those told here, in a BOOK or a SENTENCE". */
    private static void namesThatMayNotBe() {
        for (String word : WORDS) {
            postFault("idea " + word + " 1;", 5, 1);
            postFault("room " + word + ";", 5, 1);
            postFault("room r;parcel " + word + " r;", 14, 1);
            postFault("parcel k " + word + ";", 9, 1);
            postFault("idea a 1;person " + word + " a 1;", 16, 1);
            postFault("person p " + word + " 1;", 9, 1);
            postFits("room " + (word.length() < 7 ? word + "x" : word.substring(0, 6)) + ";", 1);
            bookFault("p joins " + word + ";", 8, 1);
            sentenceFault("is " + word, 3, 1);
        }
        // Words that no text tells are names.
        postFits("idea at 1;idea last 1;room sit;room stand;room wish;room let;", 6);
    }

    /** "told once": a NAME told twice, of whatever sorts, is a FAULT at the second. */
    private static void toldOnce() {
        String[] first = {"idea z 1;", "room z;", "room y;parcel z y;", "idea y 1;person z y 1;"};
        String[] again = {"idea z 1;", "room z;", "parcel z y;", "person z y 1;"};
        int[] at = {5, 5, 7, 7};
        for (String told : first) {
            for (int k = 0; k < again.length; k++) {
                postFault(told + again[k], told.length() + at[k], 3);
            }
        }
        postFault("parcel z z;", 9, 3);
        postFault("person z z 1;", 9, 3);
    }

    /** "3 a NAME .. not told, or of another sort": at each place where a NAME is due. */
    private static void ofAnotherSort() {
        String[] lines = {"parcel new ?;", "person new ? 1;", "sits ? k;", "sits p ?;", "has ? a 1;", "has k ? 1;",
            "quarrel ? b;", "quarrel b ?;"};
        String[] due = {"r", "a", "p", "k", "k", "a", "a", "a"};
        for (int line = 0; line < lines.length; line++) {
            for (String name : new String[] {"a", "r", "k", "p", "nobody"}) {
                String text = SMALL + lines[line].replace("?", name);
                if (name.equals(due[line])) {
                    postFits(text, 8);
                } else {
                    postFault(text, SMALL.length() + lines[line].indexOf('?'), 3);
                }
            }
        }
        // Told in the same text, but behind it.
        postFault("parcel k r;room r;", 9, 3);
        String[] books = {"? stands;", "p joins ?;", "p wishes ?;", "p guesses ?;", "open ?;", "carry ? r;", "carry k ?;"};
        for (String book : books) {
            bookFault(book.replace("?", "nobody"), book.indexOf('?'), 3);
        }
        for (String name : new String[] {"a", "r", "k"}) {
            bookFault(name + " stands;", 0, 3);
        }
        for (String name : new String[] {"a", "r", "p"}) {
            bookFault("p joins " + name + ";", 8, 3);
            bookFault("open " + name + ";", 5, 3);
            bookFault("carry " + name + " r;", 6, 3);
        }
        for (String name : new String[] {"r", "k", "p"}) {
            bookFault("p wishes " + name + ";", 9, 3);
            bookFault("p guesses " + name + ";", 10, 3);
            sentenceFault("is " + name, 3, 3);
        }
        for (String name : new String[] {"a", "k", "p"}) {
            bookFault("carry k " + name + ";", 8, 3);
            sentenceFault("in " + name, 3, 3);
        }
        sentenceFault("is nobody", 3, 3);
        sentenceFault("in nobody", 3, 3);
        // A name of the post that was is told no more.
        WonderParcels x = small();
        Check.post(x, "idea c 1;room r;parcel k r;");
        Check.is("is a", Check.sentence(x, "is a"), -4);
        Check.is("kind", x.fault(), 3);
        Check.is("is c", Check.sentence(x, "is c"), 1);
    }

    /** "6 IDEAS, 4 ROOMS, 6 PARCELS, 8 PERSONS at most, numbered from 0 each." */
    private static void howManyOfASort() {
        postFits(FULL, 24);
        int bytes = FULL.length();
        for (String word : new String[] {"idea", "room", "parcel", "person"}) {
            postFault(FULL + word, bytes, 4);
            postFault(FULL + " \n" + word + " z", bytes + 2, 4);
            postFault(FULL + word + " a", bytes, 4);
            postFault(FULL + word + " 5", bytes, 4);
        }
        postFits(FULL + "sits q k;has k a 1;quarrel a b;leak 1;guess 1;", 29);
        // A name that is not told is looked for among all that are.
        postFault(FULL + "sits z k;", bytes + 5, 3);
        postFault(FULL + "sits x z;", bytes + 7, 3);
        postFault(FULL + "has p z 1;", bytes + 6, 3);
        postFault(FULL + "quarrel f z;", bytes + 10, 3);
        WonderParcels x = new WonderParcels();
        Check.post(x, FULL);
        int[] due = {6, 4, 6, 8};
        for (int what = 0; what < due.length; what++) {
            Check.is("count(" + what + ")", x.count(what), due[what]);
        }
        for (int q = 0; q < 6; q++) {
            Check.is("need(" + q + ")", x.need(q), q + 1);
            Check.is("its name", Check.tag(x, q), (char) ('k' + q) + " is nothing");
            Check.is("its room", x.parcel(q, 1), q % 4);
        }
        for (int p = 0; p < 8; p++) {
            Check.is("his wish", x.person(p, 0), p % 6);
            Check.is("keen", x.person(p, 1), p + 1);
        }
    }

    /** "A BOOK is a text of at most 400 bytes". */
    private static void bytesOfABook() {
        bookFits("", 0);
        bookFits(blanks(400), 0);
        bookFault(blanks(401), 400, 1);
        bookFits("day 1;" + blanks(394), 1);
        bookFits(blanks(394) + "day 1;", 1);
        bookFault("day 1;" + blanks(395), 400, 1);
        bookFault(blanks(395) + "day 1;", 400, 1);
        bookFault(blanks(394) + "day 1;day 1;", 400, 1);
        bookFault("day 1;" + blanks(900), 400, 1);
        bookFault(";", 0, 1);
        bookFault("day 1", 5, 1);
    }

    /** "{ LINE ; }, 40 at most"; "a 41st LINE of a BOOK (at the LINE's first WORD)". */
    private static void linesOfABook() {
        String forty = "day 1;".repeat(40);
        bookFits(forty, 40);
        bookFits(forty + " \n ", 40);
        for (String line : new String[] {"day 1;", "open k;", "carry k r;", "p stands;"}) {
            bookFault(forty + line, 240, 4);
            bookFault(forty + "\n" + line, 241, 4);
        }
        bookFault("day 1;".repeat(39) + "day 61;day 1;", 238, 2);
        bookFault(forty + "day 0;", 240, 4);
        bookFault("day 1;".repeat(60), 240, 4);
    }

    /** "'day' N (1 to 60)". */
    private static void numbersOfABook() {
        bookFault("day 0;", 4, 2);
        bookFits("day 1;", 1);
        bookFits("day 60;", 1);
        bookFault("day 61;", 4, 2);
        bookFault("day 999;", 4, 2);
        bookFault("day;", 3, 1);
        bookFault("day p;", 4, 1);
    }

    /** "A SENTENCE is a text of at most 200 bytes: COND": it can't be empty. */
    private static void bytesOfASentence() {
        sentenceFault("", 0, 1);
        sentenceFault(blanks(1), 1, 1);
        sentenceFault(blanks(200), 200, 1);
        sentenceFault(blanks(201), 200, 1);
        sentenceFits("opened" + blanks(194), 1);
        sentenceFits(blanks(194) + "opened", 1);
        sentenceFault("opened" + blanks(195), 200, 1);
        sentenceFault(blanks(195) + "opened", 200, 1);
        sentenceFault(blanks(194) + "opened)", 200, 1);
        sentenceFault("()", 1, 1);
        sentenceFault("opened;", 6, 1);
    }

    /** "20 ONES": "each not, bracket and other one"; "a 21st ONE .. (at its first TOKEN)". */
    private static void onesOfASentence() {
        String twenty = "number=0" + " or in r".repeat(19);
        sentenceFits(twenty, 20);
        sentenceFault(twenty + " or opened", 164, 4);
        sentenceFault(twenty + " and opened", 165, 4);
        sentenceFault(twenty + " or not opened", 164, 4);
        sentenceFault(twenty + " or (opened)", 164, 4);
        sentenceFault(twenty + " or is", 164, 4);
        sentenceFault(twenty + " or", 163, 1);
        String nineteen = "number=0" + " or in r".repeat(18);
        sentenceFits(nineteen + " or opened", 20);
        sentenceFault(nineteen + " or not opened", 160, 4);
        sentenceFault(nineteen + " or (opened)", 157, 4);
        // The twentieth counts: only it may be said of the second parcel, or only it may not.
        WonderParcels x = small();
        Check.is("ones", Check.sentence(x, "number=0" + " or bulge>0".repeat(16) + " or number=1"), 18);
        Check.is("both", x.said(-1), 2);
        Check.is("ones", Check.sentence(x, "in r" + " and in r".repeat(18) + " and number=1"), 20);
        Check.is("one", x.said(-1), 1);
        Check.is("it", x.said(0), 1);
        Check.is("ones", Check.sentence(x, "opened" + " or opened".repeat(18) + " or in r"), 20);
        Check.is("both", x.said(-1), 2);
    }

    /** "8 within one another"; "a ninth within (at its first TOKEN)". */
    private static void withinOneAnother() {
        sentenceFits("not ".repeat(7) + "opened", 8);
        sentenceFault("not ".repeat(8) + "opened", 32, 4);
        sentenceFits("(".repeat(7) + "opened" + ")".repeat(7), 8);
        sentenceFault("(".repeat(8) + "opened" + ")".repeat(8), 8, 4);
        sentenceFault("(".repeat(8) + "is nobody" + ")".repeat(8), 8, 4);
        sentenceFault("(".repeat(7) + "not opened" + ")".repeat(7), 11, 4);
        sentenceFault("(".repeat(7) + "opened and (opened)" + ")".repeat(7), 19, 4);
        sentenceFits("(".repeat(6) + "opened and (opened)" + ")".repeat(6), 9);
        sentenceFits("(((((((opened))))))) and not not not not not not not opened", 16);
    }

    /** "( 'size' | 'bulge' | 'turned' | 'number' ) SIGN NUMBER": any NUMBER is as told. */
    private static void numbersOfASentence() {
        for (String what : new String[] {"size", "bulge", "turned", "number"}) {
            for (String sign : new String[] {"<", "=", ">"}) {
                sentenceFits(what + sign + "0", 1);
                sentenceFits(what + sign + "999", 1);
                sentenceFault(what + sign, what.length() + 1, 1);
                sentenceFault(what + sign + "a", what.length() + 1, 1);
            }
            sentenceFault(what, what.length(), 1);
            sentenceFault(what + "(5", what.length(), 1);
            sentenceFault(what + ";5", what.length(), 1);
        }
    }

    /** "FAULTS, the first along the text". */
    private static void theFirstAlongTheText() {
        postFault("idea a 61;room a;?", 7, 2);
        postFault("room a;room a;idea b 0;", 12, 3);
        postFault("room a;? room a;", 7, 1);
        postFault("room a;room b;room c;room d;room a;leak 9;", 28, 4);
        bookFault("day 61;nobody stands;?", 4, 2);
        bookFault("nobody stands;day 61;", 0, 3);
        sentenceFault("is nobody and ?", 3, 3);
        sentenceFault("? and is nobody", 0, 1);
        // Ahead of the end of what may be there, too.
        postFault("leak 6;" + blanks(920), 5, 2);
        bookFault("day 61;" + blanks(900), 4, 2);
        sentenceFault("is nobody" + blanks(900), 3, 3);
    }

    /** "of one TOKEN the least". */
    private static void ofOneTokenTheLeast() {
        String forty = "day 1;".repeat(40);
        bookFault(forty + "nobody stands;", 240, 3);
        bookFault(forty + "k stands;", 240, 3);
        bookFault(forty + "stands;", 240, 1);
        bookFault(forty + ";", 240, 1);
        bookFault(forty + "5", 240, 1);
        bookFault(forty + "?", 240, 1);
        String twenty = "number=0" + " or in r".repeat(19);
        sentenceFault(twenty + " or nobody", 164, 1);
        sentenceFault(twenty + " or )", 164, 1);
        sentenceFault(twenty + " or ?", 164, 1);
        sentenceFault("(".repeat(8) + "nobody", 8, 1);
        sentenceFault("(".repeat(8), 8, 1);
    }

    /** "at it; the end: how many bytes there are". */
    private static void theEnd() {
        postFault("room", 4, 1);
        postFault("room  ", 6, 1);
        postFault("room a\n", 7, 1);
        postFits("room a ;", 1);
        bookFault("p", 1, 1);
        bookFault("p ", 2, 1);
        bookFault("p joins", 7, 1);
        bookFault("p joins k \n", 11, 1);
        sentenceFault("not", 3, 1);
        sentenceFault("(opened ", 8, 1);
        sentenceFault("opened and \n", 12, 1);
        sentenceFault("size < ", 7, 1);
    }

    /** "the most bytes told, if there are more and no FAULT is ahead: TOKENS that begin ahead of it are read whole". */
    private static void readWhole() {
        // 'room' begins at 897 and goes on to 901; then the text has no more.
        postFault(blanks(897) + "room a;", 900, 1);
        postFault(blanks(899) + "room a;", 900, 1);
        postFault(blanks(900) + "room a;", 900, 1);
        postFault(blanks(899) + "rooms a;", 899, 1);
        postFault(blanks(896) + "room?", 900, 1);
        postFault(blanks(895) + "room?", 899, 1);
        // A NAME told twice and a NUMBER that is not as told, which begin at 899.
        postFault("room abcdefg;" + blanks(881) + "room abcdefg;", 899, 3);
        postFault("room abcdefg;" + blanks(882) + "room abcdefg;", 900, 1);
        postFault(blanks(894) + "leak 5;", 900, 1);
        postFault(blanks(894) + "leak 15;", 899, 2);
        postFault(blanks(894) + "leak 1555;", 899, 1);
        bookFault(blanks(396) + "day 1;", 400, 1);
        bookFault(blanks(395) + "day 61;", 399, 2);
        bookFault(blanks(399) + "nobody stands;", 399, 3);
        sentenceFault(blanks(197) + "opened", 200, 1);
        sentenceFault(blanks(196) + "is nobody", 199, 3);
        sentenceFault(blanks(199) + "openeds", 199, 1);
    }
}
