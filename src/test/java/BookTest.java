/** Promises 36, 37: book, told. */
public final class BookTest {
    public static void main(String[] args) {
        judged();
        lived();
        whyWrong();
        daysLeft();
        faults();
        tooMany();
        tooLong();
        otherLives();
        Check.end("BookTest");
    }

    private static WonderParcels made() {
        WonderParcels x = new WonderParcels();
        Check.is("told ahead of any", x.told(0) + x.told(1) + x.told(2) + x.told(3), -4);
        Check.is("post", Check.post(x, StateTest.POST), 18);
        return x;
    }

    private static void told(WonderParcels x, int... due) {
        for (int what = 0; what < due.length; what++) {
            Check.is("told(" + what + ")", x.told(what), due[what]);
        }
        Check.is("told(-1)", x.told(-1), -1);
        Check.is("told(4)", x.told(4), -1);
        Check.is("told(most)", x.told(Integer.MAX_VALUE), -1);
    }

    private static void judged() {
        WonderParcels x = made();
        Check.is("book", Check.book(x, "day 2;cy joins bag; day 1; open tin;", 0), -1);
        told(x, 0, 4, 3, 0);
        Check.is("the day stays", x.now(0), 0);
        Check.is("he stays", x.person(2, 2), -1);
        Check.is("nothing is open", x.now(1), 0);
        Check.is("nothing to undo", x.undo(), -1);
        Check.is("the tape is empty", x.count(6), 0);
        Check.is("an empty one", Check.book(x, "", 0), -1);
        told(x, 0, 0, 0, 3);
        Check.is("wrong", Check.book(x, "day 2;cy stands;day 9;", 0), 1);
        told(x, 11, 1, 2, 2);
    }

    private static void lived() {
        WonderParcels x = made();
        Check.is("book", Check.book(x, "ann stands;ann joins bag;ann wishes cat;ann guesses doll;open box;carry tin hall;day 60;", 1), -1);
        told(x, 0, 7, 60, 1);
        Check.is("seat", x.person(0, 2), 1);
        Check.is("wish", x.person(0, 0), 2);
        Check.is("wrong", x.person(0, 4), 1);
        Check.is("open", x.now(1), 1);
        Check.is("room", x.parcel(2, 1), 0);
        Check.is("day", x.now(0), 60);
        Check.is("bag: doll by a guess", x.much(1, 1), 1);
        Check.is("bag: cat", x.much(1, 2), 99);
        Check.is("tin: cat by leak", x.much(2, 2), 65);
        Check.is("undo", x.undo(), 0);
        Check.is("day", x.now(0), 0);
        Check.is("seat", x.person(0, 2), 0);
        // As far as it is not wrong.
        Check.is("wrong", Check.book(x, "day 1;cy joins tin;open tin;cy guesses cat;day 5;", 1), 3);
        told(x, 32, 3, 1, 3);
        Check.is("day", x.now(0), 1);
        Check.is("seat", x.person(2, 2), 2);
        Check.is("open", x.now(1), 4);
        Check.is("undo", x.undo(), 0);
        Check.is("a right guess", Check.book(x, "cy joins tin;cy guesses cat;", 1), -1);
        Check.is("right", x.person(2, 3), 1);
        Check.is("5 less 4", x.much(2, 2), 1);
        told(x, 0, 2, 0, 7);
    }

    private static void wrong(String book, int line, int why) {
        WonderParcels x = made();
        for (int lives = 0; lives <= 1; lives++) {
            Check.is("book of '" + book + "'", Check.book(x, book, lives), line);
            Check.is("why '" + book + "' is wrong", x.told(0), why);
            Check.is("lines that are not", x.told(1), line);
            Check.is("no fault", x.fault(), 0);
        }
    }

    private static void whyWrong() {
        wrong("ann joins box;", 0, 1);
        wrong("ann joins bag;ann joins bag;", 1, 1);
        wrong("cy stands;", 0, 11);
        wrong("ann stands;ann stands;", 1, 11);
        wrong("ann wishes lamp;", 0, 21);
        wrong("day 1;cy guesses cat;", 1, 31);
        wrong("ann guesses cat;open box;ann guesses cat;", 2, 32);
        wrong("open box;open box;", 1, 41);
        wrong("open box;carry box hall;", 1, 51);
        wrong("carry box hall;", 0, 52);
        wrong("day 60;day 60;day 60;day 60;day 60;day 60;day 41;", 6, 61);
    }

    private static void daysLeft() {
        WonderParcels x = made();
        Check.is("up to the last day", Check.book(x, "day 60;day 60;day 60;day 60;day 60;day 60;day 40;", 1), -1);
        Check.is("day", x.told(2), 400);
        Check.is("fewer are left", Check.book(x, "cy joins bag;day 1;", 1), 1);
        Check.is("why", x.told(0), 61);
        Check.is("day", x.told(2), 400);
        Check.is("the line ahead was lived", x.person(2, 2), 1);
        x.undo();
        x.undo();
        Check.is("day", x.now(0), 0);
        Check.book(x, "day 60;day 60;day 60;day 60;day 60;day 60;day 30;", 1);
        Check.is("none of the line's days goes", Check.book(x, "day 11;", 1), 0);
        Check.is("day", x.now(0), 390);
        Check.is("day told", x.told(2), 390);
    }

    private static void fault(String text, int place, int kind) {
        WonderParcels x = made();
        Check.is("book", Check.book(x, "day 2;", 0), -1);
        for (int lives = 0; lives <= 1; lives++) {
            Check.is("book of '" + text + "'", Check.book(x, text, lives), -2 - place);
            Check.is("fault of '" + text + "'", x.fault(), kind);
            Check.is("the tape is empty", x.count(6), 0);
            Check.is("nothing is lived", x.now(0), 0);
            Check.is("nothing to undo", x.undo(), -1);
            told(x, 0, 1, 2, 2);
        }
    }

    private static void faults() {
        fault("day 1;?", 6, 1);
        fault(";", 0, 1);
        fault("5", 0, 1);
        fault("ann", 3, 1);
        fault("ann;", 3, 1);
        fault("ann bob", 4, 1);
        fault("ann sits box;", 4, 1);
        fault("ann open box;", 4, 1);
        fault("ann stands", 10, 1);
        fault("ann stands ann", 11, 1);
        fault("idea", 0, 1);
        fault("joins", 0, 1);
        fault("day x;", 4, 1);
        fault("day;", 3, 1);
        fault("open open;", 5, 1);
        fault("carry box;", 9, 1);
        fault("day 0;", 4, 2);
        fault("day 61;", 4, 2);
        fault("nobody stands;", 0, 3);
        fault("box stands;", 0, 3);
        fault("ann joins hall;", 10, 3);
        fault("ann wishes box;", 11, 3);
        fault("ann guesses bob;", 12, 3);
        fault("open lamp;", 5, 3);
        fault("carry box box;", 10, 3);
        fault("carry hall box;", 6, 3);
        // A fault counts ahead of all that is wrong.
        fault("ann joins box;day 1", 19, 1);
    }

    private static void tooMany() {
        String forty = "day 1;".repeat(40); // 240 bytes
        WonderParcels x = made();
        Check.is("forty lines", Check.book(x, forty, 0), -1);
        told(x, 0, 40, 40, 0);
        fault(forty + "day 1;", 240, 4);
        fault(forty + " ann", 241, 4);
        fault(forty + "day 0;", 240, 4);
        fault(forty + "nobody", 240, 3);
        fault(forty + "idea", 240, 1);
        fault(forty + ";", 240, 1);
        fault(forty + "?", 240, 1);
    }

    private static void tooLong() {
        WonderParcels x = made();
        Check.is("400 bytes", Check.book(x, "day 1;" + " ".repeat(394), 0), -1);
        fault("day 1;" + " ".repeat(395), 400, 1);
        fault(" ".repeat(396) + "day 61;", 400, 1);
        fault(" ".repeat(395) + "day 61;", 399, 2);
        fault(" ".repeat(397) + "nobody stands;", 397, 3);
        fault(" ".repeat(397) + "nobodies stands;", 397, 1);
        fault(" ".repeat(398) + "ann stands;", 400, 1);
    }

    private static void otherLives() {
        WonderParcels x = made();
        Check.tape(x, "day 1;");
        for (int lives : new int[] {-1, 2, Integer.MAX_VALUE, Integer.MIN_VALUE}) {
            Check.is("book(" + lives + ")", x.book(lives), -1000);
        }
        Check.is("the tape stays", x.count(6), 6);
        Check.is("told ahead of any", x.told(1), -1);
        Check.is("book(1)", x.book(1), -1);
        Check.is("lived", x.now(0), 1);
    }
}
