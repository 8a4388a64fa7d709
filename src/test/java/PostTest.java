/** Promises 4, 5: post and fault, with every fault that the document names. */
public final class PostTest {
    private static final String HEAD = "idea a 5;idea b 6;room r;parcel q r;person p a 1;"; // 49 bytes

    public static void main(String[] args) {
        told();
        stays();
        noToken();
        cannotCome();
        numbers();
        names();
        tooMany();
        tooLong();
        faultOfTheLatest();
        Check.end("PostTest");
    }

    private static void fault(String text, int place, int kind) {
        WonderParcels x = new WonderParcels();
        Check.is("post of '" + text + "'", Check.post(x, text), -1 - place);
        Check.is("fault of '" + text + "'", x.fault(), kind);
        Check.is("the tape is empty", x.count(6), 0);
    }

    private static void fits(String text, int lines) {
        WonderParcels x = new WonderParcels();
        Check.is("post of '" + text + "'", Check.post(x, text), lines);
        Check.is("fault of '" + text + "'", x.fault(), 0);
        Check.is("the tape is empty", x.count(6), 0);
    }

    private static void told() {
        fits("", 0);
        fits(" \n ", 0);
        fits("idea a 1;", 1);
        fits("idea\na\n1\n;\n", 1);
        fits("idea abcdefg 060;room r;parcel q r;person p abcdefg 9;sits p q;has q abcdefg 99;leak 0;guess 20;", 8);
        fits("idea a 1;idea b 60;quarrel b a;leak 5;guess 1;", 5);
        fits("leak 5;idea a 1;", 2);
        WonderParcels x = new WonderParcels();
        Check.post(x, HEAD + "person o b 9;sits o q;has q b 7;quarrel a b;");
        Check.is("need(0)", x.need(0), 5);
        Check.is("need(1)", x.need(1), 6);
        Check.is("much(0, 0)", x.much(0, 0), 0);
        Check.is("much(0, 1)", x.much(0, 1), 7);
        Check.is("person(0, 2)", x.person(0, 2), -1);
        Check.is("person(1, 2)", x.person(1, 2), 0);
        Check.is("person(1, 0)", x.person(1, 0), 1);
        Check.is("person(1, 1)", x.person(1, 1), 9);
        Check.is("quarrels(0)", x.quarrels(0), 2);
    }

    /** A post with a fault leaves the one that is; a new one begins at day 0 with nothing open and no sentence. */
    private static void stays() {
        WonderParcels x = new WonderParcels();
        Check.post(x, HEAD + "person o b 9;sits o q;sits p q;");
        x.days(3);
        x.open(0);
        Check.sentence(x, "opened");
        Check.is("said", x.said(-1), 1);
        Check.is("a post with a fault", Check.post(x, "idea z 5;room"), -14);
        Check.is("the day stays", x.now(0), 3);
        Check.is("ideas stay", x.count(0), 2);
        Check.is("the sentence stays", x.said(-1), 1);
        Check.is("acts can be undone", x.undo(), 1);
        x.open(0);
        Check.is("a new post", Check.post(x, HEAD), 5);
        Check.is("day", x.now(0), 0);
        Check.is("open", x.now(1), 0);
        Check.is("all", x.now(4), 0);
        Check.is("bulges", x.now(5), 0);
        Check.is("turned", x.now(6), 0);
        Check.is("no sentence", x.said(-1), -1);
        Check.is("nothing can be undone", x.undo(), -1);
    }

    private static void noToken() {
        fault("?", 0, 1);
        fault("idea a 1; Idea", 10, 1);
        fault("idea a1 1;", 5, 1);
        fault("idea 1a 1;", 5, 1);
        fault("idea abcdefgh 1;", 5, 1);
        fault("idea a 0001;", 7, 1);
        fault("idea a 1;\t", 9, 1);
        fault("idea a 1;\r\n", 9, 1);
        fault("idea a 1; .", 10, 1);
        fault("idea a 1;" + (char) 233, 9, 1);
        fault("ideaa 1;", 0, 1);
    }

    private static void cannotCome() {
        fault("idea", 4, 1);
        fault("idea a 1", 8, 1);
        fault("idea a 1  ", 10, 1);
        fault("idea a 1 room", 9, 1);
        fault(";", 0, 1);
        fault("a", 0, 1);
        fault("5", 0, 1);
        fault("idea 5", 5, 1);
        fault("idea idea 5;", 5, 1);
        fault("idea a b;", 7, 1);
        fault("joins", 0, 1);
        for (String word : ("idea room parcel person sits has quarrel leak guess joins stands wishes guesses open carry"
                + " day or and not opened nothing watched is in size bulge turned number").split(" ")) {
            fault("room " + word + ";", 5, 1);
        }
        fault("leak <;", 5, 1);
        fault("leak 1;leak", 7, 3);
        fault(HEAD + "has q 5;", 55, 1);
        fault(HEAD + "sits 1", 54, 1);
        fault(HEAD + "quarrel a", 58, 1);
        fault("person p", 8, 1);
    }

    private static void numbers() {
        fault("idea a 0;", 7, 2);
        fault("idea a 61;", 7, 2);
        fault("idea a 000;", 7, 2);
        fault("leak 6;", 5, 2);
        fault("guess 0;", 6, 2);
        fault("guess 21;", 6, 2);
        fault("idea a 1;person p a 0;", 20, 2);
        fault("idea a 1;person p a 10;", 20, 2);
        fault(HEAD + "has q a 0;", 57, 2);
        fault(HEAD + "has q a 100;", 57, 2);
    }

    private static void names() {
        fault("idea a 1;idea a", 14, 3);
        fault("idea a 1;room a;", 14, 3);
        fault("parcel q r;", 9, 3);
        fault("parcel q q;", 9, 3);
        fault("idea a 1;parcel q a;", 18, 3);
        fault("person p a 1;", 9, 3);
        fault(HEAD + "person a", 56, 3);
        fault(HEAD + "sits q q;", 54, 3);
        fault(HEAD + "sits p p;", 56, 3);
        fault(HEAD + "sits p q;sits p", 63, 3);
        fault(HEAD + "has a q 5;", 53, 3);
        fault(HEAD + "has q q 5;", 55, 3);
        fault(HEAD + "has q a 5;has q a", 65, 3);
        fault(HEAD + "has q a 1;has q a", 65, 3);
        fault(HEAD + "quarrel a a;", 59, 3);
        fault(HEAD + "quarrel a b;quarrel a b", 71, 3);
        fault(HEAD + "quarrel a b;quarrel b a", 71, 3);
        fault(HEAD + "quarrel a z;", 59, 3);
        fault("leak 1;guess 2;leak 1;", 15, 3);
        fault("guess 1;leak 1;guess 2;", 15, 3);
        fits(HEAD + "has q a 5;has q b 5;", 7);
    }

    private static void tooMany() {
        String ideas = "idea a 1;idea b 1;idea c 1;idea d 1;idea e 1;idea f 1;"; // 54
        fits(ideas, 6);
        fault(ideas + "idea g 1;", 54, 4);
        fault(ideas + " idea", 55, 4);
        fault(ideas + "idea a 1;", 54, 4);
        String rooms = "room a;room b;room c;room d;"; // 28
        fits(rooms, 4);
        fault(rooms + "room e;", 28, 4);
        String parcels = "room r;parcel a r;parcel b r;parcel c r;parcel d r;parcel e r;parcel f r;"; // 73
        fits(parcels, 7);
        fault(parcels + "parcel g r;", 73, 4);
        StringBuilder persons = new StringBuilder("idea z 1;");
        for (char c = 'a'; c <= 'h'; c++) {
            persons.append("person ").append(c).append(" z 1;");
        }
        fits(persons.toString(), 9);
        fault(persons + "person i z 1;", 113, 4);
    }

    private static String blanks(int n) {
        return " ".repeat(n);
    }

    private static void tooLong() {
        fits("idea a 1;" + blanks(891), 1);
        fault("idea a 1;" + blanks(892), 900, 1);
        fits(blanks(891) + "idea a 1;", 1);
        fault(blanks(892) + "idea a 1;", 900, 1);
        // A token that begins ahead of 900 is read whole: here a word of seven, there one of eight.
        fault(blanks(895) + "idea abcdefg 1;", 900, 1);
        fault(blanks(893) + "idea abcdefg 1;", 900, 1);
        fault(blanks(893) + "idea abcdefgh 1;", 898, 1);
        fault(blanks(892) + "idea a 61;", 899, 2);
        fault(blanks(891) + "idea a 1;?", 900, 1);
        fault("?" + blanks(920), 0, 1);
        fault("idea a 1" + blanks(900), 900, 1);
        fault("idea a 1" + blanks(880), 888, 1);
    }

    private static void faultOfTheLatest() {
        WonderParcels x = new WonderParcels();
        Check.is("fault ahead of any", x.fault(), 0);
        Check.post(x, "idea a 0;");
        Check.is("fault of post", x.fault(), 2);
        Check.book(x, "nobody stands;", 0);
        Check.is("fault of book", x.fault(), 3);
        Check.is("another lives", x.book(7), -1000);
        Check.is("book of -1000 leaves it", x.fault(), 3);
        Check.sentence(x, "?");
        Check.is("fault of sentence", x.fault(), 1);
        Check.sat(x, 0, 0, 0, 0);
        Check.is("sat leaves it", x.fault(), 1);
        Check.book(x, "", 0);
        Check.is("no fault of book", x.fault(), 0);
        Check.sentence(x, "or");
        Check.is("fault of sentence", x.fault(), 1);
        Check.post(x, "");
        Check.is("no fault of post", x.fault(), 0);
        Check.post(x, "x");
        Check.sentence(x, "opened");
        Check.is("no fault of sentence", x.fault(), 0);
    }
}
