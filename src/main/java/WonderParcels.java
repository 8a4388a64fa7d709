import java.util.Arrays;
import java.util.NoSuchElementException;

/** A post whose parcels grow by being wondered at. The document is shared/DOC.md; README.md says how to use it. */
public final class WonderParcels {
    public static final int NONE = -1;

    // The sorts of names, in the order of the words 'idea', 'room', 'parcel', 'person'.
    private static final int IDEAS = 0;
    private static final int ROOMS = 1;
    private static final int PARCELS = 2;
    private static final int PERSONS = 3;

    private static final int MOST_IDEAS = 6;
    private static final int MOST_ROOMS = 4;
    private static final int MOST_PARCELS = 6;
    private static final int MOST_PERSONS = 8;

    private static final int MOST_OF_ONE = 99;
    private static final int LAST_DAY = 400;
    private static final int MOST_DAYS_AT_ONCE = 60;
    private static final int MOST_DAYS_ASKED = 30;
    private static final int NO_IDEA_ON_TAPE = 255;
    private static final int OTHER_LIVES = -1000;

    // What a token is: a sign is its own byte, a word of the document stands in WORDS.
    private static final int THE_END = 0;
    private static final int NO_TOKEN = 1;
    private static final int NAME = 2;
    private static final int NUMBER = 3;
    private static final int BRACKET = '(';
    private static final int BRACKET_ENDS = ')';
    private static final int LINE_ENDS = ';';
    private static final int LESS = '<';
    private static final int LIKE = '=';
    private static final int MORE = '>';

    // Each word ends with a blank; the first is 128, the next 129, as the constants behind it say.
    private static final String WORDS = "idea room parcel person sits has quarrel leak guess joins stands wishes guesses open carry day or and not opened nothing watched is in size bulge turned number ";
    private static final int HOW_MANY_WORDS = 28;
    private static final int IDEA = 128;
    private static final int ROOM = 129;
    private static final int PARCEL = 130;
    private static final int PERSON = 131;
    private static final int SITS = 132;
    private static final int HAS = 133;
    private static final int QUARREL = 134;
    private static final int LEAK = 135;
    private static final int GUESS = 136;
    private static final int JOINS = 137;
    private static final int STANDS = 138;
    private static final int WISHES = 139;
    private static final int GUESSES = 140;
    private static final int OPEN = 141;
    private static final int CARRY = 142;
    private static final int DAY = 143;
    private static final int OR = 144;
    private static final int AND = 145;
    private static final int NOT = 146;
    private static final int OPENED = 147;
    private static final int NOTHING = 148;
    private static final int WATCHED = 149;
    private static final int IS = 150;
    private static final int IN = 151;
    private static final int SIZE = 152;
    private static final int BULGE = 153;
    private static final int TURNED = 154;
    private static final int ITS_NUMBER = 155;

    // The kinds of faults.
    private static final int CANNOT_COME = 1;
    private static final int NUMBER_NOT_AS_TOLD = 2;
    private static final int NAME_NOT_AS_TOLD = 3;
    private static final int ONE_TOO_MANY = 4;

    private final Tape tape = new Tape();
    private final World world;
    /** A world to try things in; no call expects anything of it. */
    private final World trial;
    private final History history;
    private final Image[] images;
    private Sentence sentence;
    private final Book book = new Book();
    private final int[] bookTold = {NONE, NONE, NONE, NONE};
    private final Rooms fewRooms = new Rooms();
    private final int[] seatsAtRest = new int[MOST_PERSONS];
    private final Tag latestTag = new Tag();
    private int latestFault = 0;
    private int whoWouldSit = NONE;
    private int whoSurely = NONE;
    private int whomToAsk = NONE;

    public WonderParcels() {
        Post empty = new Post();
        world = new World(empty);
        trial = new World(empty);
        history = new History(empty);
        images = new Image[] {new Image(empty), new Image(empty)};
        Arrays.fill(seatsAtRest, NONE);
    }

    public int feed(int a, int b, int c, int d, int e) {
        if (!tape.hasPlaceForTwenty()) {
            return NONE;
        }
        tape.putFour(a);
        tape.putFour(b);
        tape.putFour(c);
        tape.putFour(d);
        tape.putFour(e);
        return tape.length;
    }

    public boolean end(int n) {
        if (n < 0 || n > tape.length) {
            return false;
        }
        tape.length = n;
        return true;
    }

    public int post() {
        Post told = new Post();
        int lines = told.read(tape, trial);
        noteFault();
        if (latestFault != 0) {
            return -1 - tape.place;
        }
        world.takeFrom(trial);
        sentence = null;
        history.forget();
        return lines;
    }

    public int fault() {
        return latestFault;
    }

    public int much(int q, int i) {
        return isOf(PARCELS, q) && isOf(IDEAS, i) ? world.has(q, i) : NONE;
    }

    public int parcel(int q, int what) throws NoSuchElementException {
        if (!isOf(PARCELS, q)) {
            throw new NoSuchElementException("no such parcel");
        }
        switch (what) {
            case 0: return world.isNow(q);
            case 1: return world.room[q];
            case 2: return world.sizeOf(q);
            case 3: return world.bulge[q];
            case 4: return world.open[q];
            case 5: return world.turned[q];
            case 6: return world.whoSitsBy(q);
            default: throw new NoSuchElementException("no such thing of a parcel");
        }
    }

    public int person(int p, int what) throws NoSuchElementException {
        if (!isOf(PERSONS, p)) {
            throw new NoSuchElementException("no such person");
        }
        switch (what) {
            case 0: return world.wish[p];
            case 1: return world.post.keen[p];
            case 2: return world.seat[p];
            case 3: return world.right[p];
            case 4: return world.wrong[p];
            default: throw new NoSuchElementException("no such thing of a person");
        }
    }

    public int need(int i) {
        return isOf(IDEAS, i) ? world.post.need[i] : NONE;
    }

    public int quarrels(int i) {
        return isOf(IDEAS, i) ? world.post.quarrel[i] : NONE;
    }

    public int now(int what) {
        switch (what) {
            case 0: return world.day;
            case 1: return world.whichAreOpen();
            case 2: return world.whichAreNothing();
            case 3: return world.whichAreWatched();
            case 4: return world.allThatAllHave();
            case 5: return world.sumOfParcels(world.bulge);
            case 6: return world.sumOfParcels(world.turned);
            default: return NONE;
        }
    }

    public int sit(int p, int q) {
        if (!isOf(PERSONS, p) || !isOf(PARCELS, q)) {
            return NONE;
        }
        history.prepare(world);
        return keptIfDone(world.sitDown(p, q));
    }

    public int stand(int p) {
        if (!isOf(PERSONS, p)) {
            return NONE;
        }
        history.prepare(world);
        return keptIfDone(world.standUp(p));
    }

    public int wish(int p, int i) {
        if (!isOf(PERSONS, p) || !isOf(IDEAS, i)) {
            return NONE;
        }
        history.prepare(world);
        return keptIfDone(world.wishFor(p, i));
    }

    public int guess(int p, int i) {
        if (!isOf(PERSONS, p) || !isOf(IDEAS, i)) {
            return NONE;
        }
        int whyNot = world.whyNoGuess(p);
        if (whyNot != 0) {
            return -1 - whyNot;
        }
        history.prepare(world);
        history.keep();
        return world.guessAt(p, i) ? 1 : 0;
    }

    public int open(int q) {
        if (!isOf(PARCELS, q)) {
            return NONE;
        }
        history.prepare(world);
        return keptIfDone(world.openUp(q));
    }

    public int carry(int q, int room) {
        if (!isOf(PARCELS, q) || !isOf(ROOMS, room)) {
            return NONE;
        }
        history.prepare(world);
        return keptIfDone(world.carryTo(q, room));
    }

    public int days(int n) {
        if (n < 1 || n > MOST_DAYS_AT_ONCE) {
            return NONE;
        }
        history.prepare(world);
        return keptIfSome(world.goDays(n));
    }

    public int undo() {
        return history.giveBack(world);
    }

    public int when(int q, int i) {
        if (!isOf(PARCELS, q) || !isOf(IDEAS, i)) {
            return NONE;
        }
        int last = Math.min(MOST_DAYS_AT_ONCE, world.daysLeft());
        world.reckonGain(q);
        for (int days = 0; days <= last; days++) {
            if (world.becomes(q, days) == i) {
                return days;
            }
        }
        return NONE;
    }

    public int sitters(int q, int i, int k) {
        if (!isOf(PARCELS, q) || !isOf(IDEAS, i) || k < 1 || k > MOST_DAYS_ASKED) {
            return NONE;
        }
        if (world.isOpen(q) || k > world.daysLeft()) {
            return NONE;
        }
        int fewest = fewestSitters(q, i, k);
        if (fewest == NONE) {
            return NONE;
        }
        whoWouldSit = fewest;
        return Integer.bitCount(fewest);
    }

    public int sitting() {
        return whoWouldSit;
    }

    public int sat() {
        boolean fits = tape.length == 4;
        int q = tape.at(0);
        int days = tape.at(1);
        int i = tape.at(2);
        int bulges = tape.at(3);
        tape.length = 0;
        if (!fits || !isOf(PARCELS, q) || days < 1 || days > MOST_DAYS_ASKED) {
            return NONE;
        }
        if (i != NO_IDEA_ON_TAPE && !isOf(IDEAS, i) || world.isOpen(q)) {
            return NONE;
        }
        return setsThatSat(q, days, i == NO_IDEA_ON_TAPE ? NONE : i, bulges);
    }

    public int surely() {
        return whoSurely;
    }

    public int ask() {
        return whomToAsk;
    }

    public int let(int q) {
        if (!isOf(PARCELS, q)) {
            return NONE;
        }
        trial.takeFrom(world);
        int guesses = 0;
        // Each guess takes at least 1 of what the parcel has.
        while (guesses < MOST_IDEAS * MOST_OF_ONE && trial.isNow(q) != NONE) {
            trial.lessBy(q, trial.isNow(q));
            guesses++;
        }
        return guesses;
    }

    public int rooms() {
        return fewRooms.fewestFor(world);
    }

    public int roomOf(int q) {
        return q >= 0 && q < MOST_PARCELS ? fewRooms.room[q] : NONE;
    }

    public int rest() {
        trial.takeFrom(world);
        int rounds = trial.settleAll();
        Arrays.fill(seatsAtRest, NONE);
        System.arraycopy(trial.seat, 0, seatsAtRest, 0, world.post.many[PERSONS]);
        return rounds;
    }

    public int rested(int p) {
        return p >= 0 && p < MOST_PERSONS ? seatsAtRest[p] : NONE;
    }

    public int greatest() {
        int best = NONE;
        for (int q = 0; q < world.post.many[PARCELS]; q++) {
            if (!world.isOpen(q) && (best == NONE || world.sizeOf(q) > world.sizeOf(best))) {
                best = q;
            }
        }
        return best;
    }

    public int tag(int q) {
        if (!isOf(PARCELS, q)) {
            return NONE;
        }
        int i = world.isNow(q);
        latestTag.length = 0;
        latestTag.putName(world.post.nameOf(PARCELS, q));
        if (i == NONE) {
            latestTag.putText(" is nothing");
        } else {
            latestTag.putText(" is ");
            latestTag.putName(world.post.nameOf(IDEAS, i));
        }
        if (world.isOpen(q)) {
            latestTag.putText(" at last");
        }
        return latestTag.length;
    }

    public int byteAt(int i) {
        return i >= 0 && i < latestTag.length ? latestTag.bytes[i] : NONE;
    }

    public int drawn(int n, int seed) {
        if (n < 1 || n > MOST_DAYS_AT_ONCE || world.post.many[PERSONS] == 0) {
            return NONE;
        }
        history.prepare(world);
        return keptIfSome(world.drawDays(n, seed));
    }

    public int odds(int q, int i, int n, int seed) {
        if (!isOf(PARCELS, q) || !isOf(IDEAS, i) || n < 1 || n > 30) {
            return NONE;
        }
        int found = 0;
        for (int k = 0; k < n; k++) {
            trial.takeFrom(world);
            trial.drawDays(20, seed + k);
            if (trial.isNow(q) == i) {
                found++;
            }
        }
        return found;
    }

    public int book(int lives) {
        if (lives != 0 && lives != 1) {
            return OTHER_LIVES;
        }
        book.read(tape, world.post);
        noteFault();
        if (latestFault != 0) {
            return -2 - tape.place;
        }
        trial.takeFrom(world);
        int whyWrong = book.liveIn(trial);
        bookTold[0] = whyWrong;
        bookTold[1] = book.lived;
        bookTold[2] = trial.day;
        bookTold[3] = trial.whichAreNothing();
        if (lives == 1) {
            history.prepare(world);
            history.keep();
            world.takeFrom(trial);
        }
        return whyWrong == 0 ? NONE : book.lived;
    }

    public int told(int what) {
        return what >= 0 && what < bookTold.length ? bookTold[what] : NONE;
    }

    public int sentence() {
        Sentence told = new Sentence();
        told.read(tape, world.post);
        noteFault();
        if (latestFault != 0) {
            return -1 - tape.place;
        }
        sentence = told;
        return told.ones;
    }

    public int said(int k) {
        Sentence says = sentence;
        if (says == null || k < NONE) {
            return NONE;
        }
        int found = 0;
        for (int q = 0; q < world.post.many[PARCELS]; q++) {
            if (says.holdsOf(world, q)) {
                if (found == k) {
                    return q;
                }
                found++;
            }
        }
        return k == NONE ? found : NONE;
    }

    public boolean image(int k) {
        if (k < 0 || k >= images.length) {
            return false;
        }
        images[k].take(world, sentence);
        return true;
    }

    public boolean restore(int k) {
        if (k < 0 || k >= images.length || !images[k].taken) {
            return false;
        }
        world.takeFrom(images[k].world);
        sentence = images[k].sentence;
        history.forget();
        return true;
    }

    public int count(int what) {
        switch (what) {
            case 0: return world.post.many[IDEAS];
            case 1: return world.post.many[ROOMS];
            case 2: return world.post.many[PARCELS];
            case 3: return world.post.many[PERSONS];
            case 4: return world.post.leak;
            case 5: return world.post.guess;
            case 6: return tape.length;
            default: return NONE;
        }
    }

    private boolean isOf(int sort, int number) {
        return number >= 0 && number < world.post.many[sort];
    }

    /** A text has been read: what was found is noted, and the tape is empty. */
    private void noteFault() {
        latestFault = tape.fault;
        tape.length = 0;
    }

    private int keptIfDone(int whyNot) {
        if (whyNot == 0) {
            history.keep();
        }
        return whyNot;
    }

    private int keptIfSome(int days) {
        if (days > 0) {
            history.keep();
        }
        return days;
    }

    /** The fewest persons by whom the parcel is the idea then, as bits; NONE: by none. */
    private int fewestSitters(int q, int i, int days) {
        trial.takeFrom(world);
        int best = NONE;
        int sets = 1 << world.post.many[PERSONS];
        for (int set = 0; set < sets; set++) {
            if (best != NONE && Integer.bitCount(set) >= Integer.bitCount(best)) {
                continue;
            }
            trial.seatJust(set, q, world);
            trial.reckonGain(q);
            if (trial.becomes(q, days) == i) {
                best = set;
            }
        }
        return best;
    }

    private int setsThatSat(int q, int days, int idea, int bulges) {
        int persons = world.post.many[PERSONS];
        int sets = 1 << persons;
        int found = 0;
        int inAll = sets - 1;
        int[] inHowMany = new int[MOST_PERSONS];
        trial.takeFrom(world);
        Arrays.fill(trial.seat, NONE);
        for (int set = 0; set < sets; set++) {
            trial.seatJust(set, q, trial);
            trial.reckonGain(q);
            if (trial.becomes(q, days) == idea && trial.bulgesMore(q, days) == bulges) {
                found++;
                inAll &= set;
                for (int p = 0; p < persons; p++) {
                    inHowMany[p] += set >> p & 1;
                }
            }
        }
        if (found > 0) {
            whoSurely = inAll;
            whomToAsk = nearestToHalf(inHowMany, persons, found);
        }
        return found;
    }

    private static int nearestToHalf(int[] inHowMany, int persons, int sets) {
        int best = NONE;
        int least = 0;
        for (int p = 0; p < persons && p < inHowMany.length; p++) {
            int apart = Math.abs(2 * inHowMany[p] - sets);
            if (best == NONE || apart < least) {
                best = p;
                least = apart;
            }
        }
        return best;
    }

    /** The bytes that were fed, and the tokens along them. */
    private static final class Tape {
        private static final int MOST_BYTES = 940;
        private static final int LONGEST_WORD = 7;
        private static final int LONGEST_NUMBER = 3;

        private final byte[] bytes = new byte[MOST_BYTES];
        private final long[] words = new long[HOW_MANY_WORDS];
        private int length = 0;
        /** Tokens begin ahead of this place alone. */
        private int stop;
        /** There are more bytes than the text may have. */
        private boolean tooLong;
        /** The token ahead: where it begins, where the next may begin, what it is. */
        private int begin;
        private int after;
        private int kind;
        private long name;
        private int number;
        /** The first fault, and where it is; behind it nothing more is read. */
        private int fault;
        private int place;

        Tape() {
            int k = 0;
            long word = 0;
            for (int i = 0; i < WORDS.length() && k < words.length; i++) {
                char c = WORDS.charAt(i);
                if (c == ' ') {
                    words[k] = word;
                    word = 0;
                    k++;
                } else {
                    word = word << 8 | c;
                }
            }
        }

        boolean hasPlaceForTwenty() {
            return length + 20 <= bytes.length;
        }

        void putFour(int four) {
            for (int shift = 24; shift >= 0 && length < bytes.length; shift -= 8) {
                bytes[length] = (byte) (four >>> shift);
                length++;
            }
        }

        int at(int i) {
            return i >= 0 && i < length ? bytes[i] & 255 : NONE;
        }

        void startText(int mostBytes) {
            tooLong = length > mostBytes;
            stop = tooLong ? mostBytes : length;
            after = 0;
            fault = 0;
            place = 0;
            pass();
        }

        /** Whether another line begins; a text that ends here may be too long. */
        boolean goesOn() {
            if (kind == THE_END && tooLong) {
                refuse(CANNOT_COME);
            }
            return fault == 0 && kind != THE_END;
        }

        boolean sees(int wanted) {
            return fault == 0 && kind == wanted;
        }

        /** A fault at the token ahead. */
        void refuse(int what) {
            if (fault == 0) {
                fault = what;
                place = begin;
            }
        }

        /** Goes on to the next token; behind a fault it stays. */
        void pass() {
            if (fault != 0) {
                return;
            }
            begin = after;
            while (begin < stop && isBlank(bytes[begin])) {
                begin++;
            }
            if (begin >= stop) {
                begin = stop;
                kind = THE_END;
                return;
            }
            int c = bytes[begin];
            after = begin;
            if (c >= 'a' && c <= 'z' || c >= '0' && c <= '9') {
                readRun();
            } else {
                kind = isSign(c) ? c : NO_TOKEN;
                after++;
            }
        }

        void passOnly(int wanted) {
            if (kind != wanted) {
                refuse(CANNOT_COME);
            }
            pass();
        }

        int takeNumber(int least, int most) {
            int n = number;
            if (kind != NUMBER) {
                refuse(CANNOT_COME);
            } else if (n < least || n > most) {
                refuse(NUMBER_NOT_AS_TOLD);
            }
            pass();
            return n;
        }

        /** The number of the name ahead, which is to be of a sort; NONE: a fault. */
        int nameAhead(Post post, int sort) {
            if (kind != NAME) {
                refuse(CANNOT_COME);
                return NONE;
            }
            int found = post.numberOf(name, sort);
            if (found == NONE) {
                refuse(NAME_NOT_AS_TOLD);
            }
            return fault == 0 ? found : NONE;
        }

        int takeName(Post post, int sort) {
            int found = nameAhead(post, sort);
            pass();
            return found;
        }

        /** Letters and digits as far as they go, also over the place where the text must stop. */
        private void readRun() {
            int letters = 0;
            int digits = 0;
            long word = 0;
            int value = 0;
            boolean runs = true;
            while (runs && after < length) {
                int c = bytes[after];
                if (c >= 'a' && c <= 'z') {
                    letters++;
                    word = word << 8 | c;
                    after++;
                } else if (c >= '0' && c <= '9') {
                    digits++;
                    value = value * 10 + (c - '0');
                    after++;
                } else {
                    runs = false;
                }
            }
            kind = NO_TOKEN;
            if (letters == 0 && digits <= LONGEST_NUMBER) {
                kind = NUMBER;
                number = value;
            } else if (digits == 0 && letters <= LONGEST_WORD) {
                kind = NAME;
                name = word;
                for (int k = 0; k < words.length; k++) {
                    if (words[k] == word) {
                        kind = IDEA + k;
                    }
                }
            }
        }

        private static boolean isBlank(int c) {
            return c == 32 || c == 10;
        }

        private static boolean isSign(int c) {
            return c == LINE_ENDS || c == LESS || c == LIKE || c == MORE || c == BRACKET || c == BRACKET_ENDS;
        }
    }

    /** What a post's text told and no day changes. */
    private static final class Post {
        private static final int MOST_BYTES = 900;
        private static final int PLACES_OF_A_SORT = 8;
        private static final int[] MOST_OF_SORT = {MOST_IDEAS, MOST_ROOMS, MOST_PARCELS, MOST_PERSONS};

        private final long[] names = new long[MOST_OF_SORT.length * PLACES_OF_A_SORT];
        private final int[] many = new int[MOST_OF_SORT.length];
        private final int[] need = new int[MOST_IDEAS];
        private final int[] quarrel = new int[MOST_IDEAS];
        private final int[] keen = new int[MOST_PERSONS];
        private int leak = 0;
        private int guess = 5;
        private boolean leakTold = false;
        private boolean guessTold = false;

        long nameOf(int sort, int number) {
            return names[sort * PLACES_OF_A_SORT + number];
        }

        /** The number of a name of a sort; NONE: it is not told, or of another sort. */
        int numberOf(long name, int sort) {
            for (int n = 0; n < many[sort]; n++) {
                if (names[sort * PLACES_OF_A_SORT + n] == name) {
                    return n;
                }
            }
            return NONE;
        }

        /** Reads the tape as this post, and what is so at its beginning into a world: how many lines. */
        int read(Tape tape, World world) {
            world.begin(this);
            tape.startText(MOST_BYTES);
            int lines = 0;
            while (lines < MOST_BYTES && tape.goesOn()) {
                int first = tape.kind;
                if (!beginsLine(tape, first)) {
                    return NONE;
                }
                switch (first) {
                    case SITS:
                        readSits(tape, world);
                        break;
                    case HAS:
                        readHas(tape, world);
                        break;
                    case QUARREL:
                        readQuarrel(tape);
                        break;
                    case LEAK:
                        leak = tape.takeNumber(0, 5);
                        leakTold = true;
                        break;
                    case GUESS:
                        guess = tape.takeNumber(1, 20);
                        guessTold = true;
                        break;
                    default:
                        readNamed(tape, world, first - IDEA);
                        break;
                }
                tape.passOnly(LINE_ENDS);
                lines++;
            }
            return lines;
        }

        /** Passes a line's first word, if such a line may come. */
        private boolean beginsLine(Tape tape, int first) {
            if (first < IDEA || first > GUESS) {
                tape.refuse(CANNOT_COME);
            } else if (first <= PERSON && many[first - IDEA] >= MOST_OF_SORT[first - IDEA]) {
                tape.refuse(ONE_TOO_MANY);
            } else if (first == LEAK && leakTold || first == GUESS && guessTold) {
                tape.refuse(NAME_NOT_AS_TOLD);
            }
            tape.pass();
            return tape.fault == 0;
        }

        private void readNamed(Tape tape, World world, int sort) {
            int n = tellName(tape, sort);
            if (n == NONE) {
                return;
            }
            if (sort == IDEAS) {
                need[n] = tape.takeNumber(1, 60);
            } else if (sort == PARCELS) {
                world.room[n] = Math.max(0, tape.takeName(this, ROOMS));
            } else if (sort == PERSONS) {
                // Behind a fault there may be no idea; what is kept is an index all the same.
                world.wish[n] = Math.max(0, tape.takeName(this, IDEAS));
                keen[n] = tape.takeNumber(1, 9);
            }
        }

        /** Takes a name that is told now: its number; NONE: a fault. */
        private int tellName(Tape tape, int sort) {
            if (tape.kind != NAME) {
                tape.refuse(CANNOT_COME);
            } else if (isTold(tape.name)) {
                tape.refuse(NAME_NOT_AS_TOLD);
            }
            if (tape.fault != 0) {
                return NONE;
            }
            int n = many[sort];
            names[sort * PLACES_OF_A_SORT + n] = tape.name;
            many[sort] = n + 1;
            tape.pass();
            return n;
        }

        private boolean isTold(long name) {
            for (int sort = 0; sort < many.length; sort++) {
                if (numberOf(name, sort) != NONE) {
                    return true;
                }
            }
            return false;
        }

        private void readSits(Tape tape, World world) {
            int p = tape.nameAhead(this, PERSONS);
            if (p != NONE && world.seat[p] != NONE) {
                tape.refuse(NAME_NOT_AS_TOLD);
            }
            tape.pass();
            int q = tape.takeName(this, PARCELS);
            if (p != NONE) {
                world.seat[p] = q;
            }
        }

        private void readHas(Tape tape, World world) {
            int q = tape.takeName(this, PARCELS);
            int i = tape.nameAhead(this, IDEAS);
            boolean both = q != NONE && i != NONE;
            if (both && world.has(q, i) > 0) {
                tape.refuse(NAME_NOT_AS_TOLD);
            }
            tape.pass();
            int n = tape.takeNumber(1, MOST_OF_ONE);
            if (both) {
                world.put(q, i, n);
            }
        }

        private void readQuarrel(Tape tape) {
            int i = tape.takeName(this, IDEAS);
            int j = tape.nameAhead(this, IDEAS);
            boolean both = i != NONE && j != NONE;
            if (both && (i == j || quarrel(i, j))) {
                tape.refuse(NAME_NOT_AS_TOLD);
            }
            tape.pass();
            if (both) {
                quarrel[i] |= 1 << j;
                quarrel[j] |= 1 << i;
            }
        }

        private boolean quarrel(int i, int j) {
            return (quarrel[i] >> j & 1) != 0;
        }
    }

    /** All that is so on a day. */
    private static final class World {
        private static final int DAYS_TO_REST = 7;
        private static final int MOST_ROUNDS = 10;

        private Post post;
        private int day;
        private final int[] much = new int[MOST_PARCELS * MOST_IDEAS];
        private final int[] room = new int[MOST_PARCELS];
        private final int[] bulge = new int[MOST_PARCELS];
        private final int[] open = new int[MOST_PARCELS];
        private final int[] turned = new int[MOST_PARCELS];
        private final int[] wish = new int[MOST_PERSONS];
        private final int[] seat = new int[MOST_PERSONS];
        private final int[] right = new int[MOST_PERSONS];
        private final int[] wrong = new int[MOST_PERSONS];
        /** What a parcel gains of each idea a day: of that for which it was reckoned last. */
        private final int[] gain = new int[MOST_IDEAS];
        private int seed;

        World(Post post) {
            this.post = post;
            Arrays.fill(seat, NONE);
        }

        void begin(Post told) {
            post = told;
            day = 0;
            Arrays.fill(much, 0);
            Arrays.fill(room, 0);
            Arrays.fill(bulge, 0);
            Arrays.fill(open, 0);
            Arrays.fill(turned, 0);
            Arrays.fill(wish, 0);
            Arrays.fill(seat, NONE);
            Arrays.fill(right, 0);
            Arrays.fill(wrong, 0);
        }

        void takeFrom(World other) {
            post = other.post;
            day = other.day;
            System.arraycopy(other.much, 0, much, 0, much.length);
            System.arraycopy(other.room, 0, room, 0, room.length);
            System.arraycopy(other.bulge, 0, bulge, 0, bulge.length);
            System.arraycopy(other.open, 0, open, 0, open.length);
            System.arraycopy(other.turned, 0, turned, 0, turned.length);
            System.arraycopy(other.wish, 0, wish, 0, wish.length);
            System.arraycopy(other.seat, 0, seat, 0, seat.length);
            System.arraycopy(other.right, 0, right, 0, right.length);
            System.arraycopy(other.wrong, 0, wrong, 0, wrong.length);
        }

        int has(int q, int i) {
            return much[q * MOST_IDEAS + i];
        }

        void put(int q, int i, int n) {
            much[q * MOST_IDEAS + i] = Math.max(0, Math.min(MOST_OF_ONE, n));
        }

        boolean isOpen(int q) {
            return open[q] != 0;
        }

        int isNow(int q) {
            return becomes(q, 0);
        }

        /** What the parcel is when days have gone, by the gain that was reckoned for it. */
        int becomes(int q, int days) {
            int best = NONE;
            int most = 0;
            for (int i = 0; i < post.many[IDEAS]; i++) {
                int has = willHave(q, i, days);
                if (has >= post.need[i] && has > most) {
                    best = i;
                    most = has;
                }
            }
            return best;
        }

        /** As nothing but the seats says what a day brings, each day brings the same. */
        private int willHave(int q, int i, int days) {
            int has = much[q * MOST_IDEAS + i] + days * gain[i];
            return has < MOST_OF_ONE ? has : MOST_OF_ONE;
        }

        /** Whether the parcel gains anything; if somebody sits by it, it does. */
        boolean reckonGain(int q) {
            Arrays.fill(gain, 0);
            boolean any = false;
            for (int p = 0; p < post.many[PERSONS]; p++) {
                int more = givesTo(p, q);
                if (more > 0) {
                    gain[wish[p]] += more;
                    any = true;
                }
            }
            return any;
        }

        /** How much a person gives a parcel a day of what he wishes. */
        private int givesTo(int p, int q) {
            int by = seat[p];
            if (by == NONE || open[by] != 0 || open[q] != 0) {
                return 0;
            }
            if (by == q) {
                return post.keen[p];
            }
            return room[by] == room[q] ? post.leak : 0;
        }

        int bulgesMore(int q, int days) {
            boolean bulges = !isOpen(q) && wishesUnlike(q);
            return bulges ? Math.min(MOST_OF_ONE - bulge[q], days) : 0;
        }

        private boolean wishesUnlike(int q) {
            int first = NONE;
            for (int p = 0; p < post.many[PERSONS]; p++) {
                if (seat[p] == q) {
                    if (first != NONE && wish[p] != first) {
                        return true;
                    }
                    first = wish[p];
                }
            }
            return false;
        }

        int daysLeft() {
            return Math.max(0, LAST_DAY - day);
        }

        int goDays(int n) {
            int gone = Math.min(n, daysLeft());
            for (int k = 0; k < gone; k++) {
                goDay();
            }
            return gone;
        }

        private void goDay() {
            for (int q = 0; q < post.many[PARCELS]; q++) {
                if (reckonGain(q)) {
                    grow(q);
                }
            }
            day++;
        }

        private void grow(int q) {
            if (becomes(q, 1) != becomes(q, 0)) {
                turned[q]++;
            }
            for (int i = 0; i < post.many[IDEAS]; i++) {
                much[q * MOST_IDEAS + i] = willHave(q, i, 1);
            }
            bulge[q] += bulgesMore(q, 1);
        }

        int drawDays(int n, int firstSeed) {
            int gone = Math.min(n, daysLeft());
            seed = firstSeed;
            for (int k = 0; k < gone; k++) {
                for (int p = 0; p < post.many[PERSONS]; p++) {
                    drawFor(p);
                }
                goDay();
            }
            return gone;
        }

        private void drawFor(int p) {
            int what = draw(8);
            if (what == 0) {
                standUp(p);
            } else if (what == 1 && post.many[PARCELS] > 0) {
                sitDown(p, draw(post.many[PARCELS]));
            } else if (what == 2 && post.many[IDEAS] > 0) {
                wishFor(p, draw(post.many[IDEAS]));
            }
        }

        private int draw(int n) {
            seed = seed * 1103515245 + 12345;
            return n > 0 ? (seed >>> 8) % n : 0;
        }

        int sitDown(int p, int q) {
            if (seat[p] == q) {
                return 1;
            }
            seat[p] = q;
            return 0;
        }

        int standUp(int p) {
            if (seat[p] == NONE) {
                return 1;
            }
            seat[p] = NONE;
            return 0;
        }

        int wishFor(int p, int i) {
            if (wish[p] == i) {
                return 1;
            }
            wish[p] = i;
            return 0;
        }

        int whyNoGuess(int p) {
            if (seat[p] == NONE) {
                return 1;
            }
            return isOpen(seat[p]) ? 2 : 0;
        }

        /** He guesses, whom nothing keeps from it: whether it is right. */
        boolean guessAt(int p, int i) {
            int q = seat[p];
            if (q == NONE) {
                return false;
            }
            if (isNow(q) == i) {
                lessBy(q, i);
                right[p]++;
                return true;
            }
            put(q, i, has(q, i) + 1);
            wrong[p]++;
            return false;
        }

        void lessBy(int q, int i) {
            put(q, i, has(q, i) - post.guess);
        }

        int openUp(int q) {
            if (isOpen(q)) {
                return 1;
            }
            open[q] = 1;
            return 0;
        }

        int carryTo(int q, int where) {
            if (isOpen(q)) {
                return 1;
            }
            if (room[q] == where) {
                return 2;
            }
            room[q] = where;
            return 0;
        }

        /** Just the set sits by the parcel, all others as in a world, but not by it. */
        void seatJust(int set, int q, World others) {
            for (int p = 0; p < post.many[PERSONS]; p++) {
                if ((set >> p & 1) != 0) {
                    seat[p] = q;
                } else {
                    seat[p] = others.seat[p] == q ? NONE : others.seat[p];
                }
            }
        }

        /** Each sits for himself, round by round: how many rounds. */
        int settleAll() {
            boolean changed = true;
            int rounds = 0;
            while (changed && rounds < MOST_ROUNDS) {
                changed = false;
                for (int p = 0; p < post.many[PERSONS]; p++) {
                    int before = seat[p];
                    settle(p);
                    changed |= seat[p] != before;
                }
                rounds++;
            }
            return rounds;
        }

        private void settle(int p) {
            int here = seat[p];
            int best = here;
            int most = NONE;
            for (int q = 0; q < post.many[PARCELS]; q++) {
                if (isOpen(q)) {
                    continue;
                }
                seat[p] = q;
                reckonGain(q);
                boolean isIt = becomes(q, DAYS_TO_REST) == wish[p];
                int has = isIt ? willHave(q, wish[p], DAYS_TO_REST) : 0;
                if (has > most || has == most && q == here) {
                    best = q;
                    most = has;
                }
            }
            seat[p] = best;
        }

        int sizeOf(int q) {
            int sum = 0;
            for (int i = 0; i < post.many[IDEAS]; i++) {
                sum += has(q, i);
            }
            return sum;
        }

        int whoSitsBy(int q) {
            int who = 0;
            for (int p = 0; p < post.many[PERSONS]; p++) {
                if (seat[p] == q) {
                    who |= 1 << p;
                }
            }
            return who;
        }

        int whichAreOpen() {
            int which = 0;
            for (int q = 0; q < post.many[PARCELS]; q++) {
                if (isOpen(q)) {
                    which |= 1 << q;
                }
            }
            return which;
        }

        int whichAreNothing() {
            int which = 0;
            for (int q = 0; q < post.many[PARCELS]; q++) {
                if (isNow(q) == NONE) {
                    which |= 1 << q;
                }
            }
            return which;
        }

        int whichAreWatched() {
            int which = 0;
            for (int q = 0; q < post.many[PARCELS]; q++) {
                if (whoSitsBy(q) != 0) {
                    which |= 1 << q;
                }
            }
            return which;
        }

        int allThatAllHave() {
            int sum = 0;
            for (int q = 0; q < post.many[PARCELS]; q++) {
                sum += sizeOf(q);
            }
            return sum;
        }

        int sumOfParcels(int[] row) {
            int sum = 0;
            for (int q = 0; q < post.many[PARCELS] && q < row.length; q++) {
                sum += row[q];
            }
            return sum;
        }
    }

    /** What was so ahead of the latest acts, to be given back. */
    private static final class History {
        private static final int MOST_KEPT = 8;
        // One place more, so that what is prepared for an act that is not done costs none that is kept.
        private static final int PLACES = MOST_KEPT + 1;

        private final World[] worlds = new World[PLACES];
        private int next = 0;
        private int kept = 0;

        History(Post post) {
            for (int k = 0; k < PLACES; k++) {
                worlds[k] = new World(post);
            }
        }

        void forget() {
            kept = 0;
        }

        void prepare(World world) {
            worlds[next].takeFrom(world);
        }

        void keep() {
            next = (next + 1) % PLACES;
            kept = Math.min(MOST_KEPT, kept + 1);
        }

        /** The world is as ahead of the latest act: how many more are kept; NONE: none was. */
        int giveBack(World world) {
            if (kept == 0) {
                return NONE;
            }
            next = (next + PLACES - 1) % PLACES;
            world.takeFrom(worlds[next]);
            kept--;
            return kept;
        }
    }

    /** A place in which all that is so is kept. */
    private static final class Image {
        private final World world;
        private Sentence sentence = null;
        private boolean taken = false;

        Image(Post post) {
            world = new World(post);
        }

        void take(World now, Sentence says) {
            world.takeFrom(now);
            sentence = says;
            taken = true;
        }
    }

    /** Rooms in which no two quarrel. */
    private static final class Rooms {
        private final int[] idea = new int[MOST_PARCELS];
        private final int[] room = new int[MOST_PARCELS];

        Rooms() {
            Arrays.fill(room, NONE);
        }

        int fewestFor(World world) {
            int parcels = world.post.many[PARCELS];
            Arrays.fill(room, NONE);
            for (int q = 0; q < parcels; q++) {
                idea[q] = world.isNow(q);
            }
            int rooms = 0;
            // In as many rooms as parcels each has its own, so the last try finds a way.
            while (!canPlace(world.post, 0, rooms) && rooms < parcels) {
                rooms++;
            }
            return rooms;
        }

        /** Places this parcel and all behind it, each in the least room that lets the others be placed. */
        private boolean canPlace(Post post, int q, int rooms) {
            if (q >= post.many[PARCELS] || q >= room.length) {
                return true;
            }
            for (int r = 0; r < rooms; r++) {
                if (isQuiet(post, q, r)) {
                    room[q] = r;
                    if (canPlace(post, q + 1, rooms)) {
                        return true;
                    }
                }
            }
            return false;
        }

        private boolean isQuiet(Post post, int q, int r) {
            for (int other = 0; other < q; other++) {
                boolean both = idea[other] != NONE && idea[q] != NONE;
                if (room[other] == r && both && post.quarrel(idea[other], idea[q])) {
                    return false;
                }
            }
            return true;
        }
    }

    /** A text that says what a parcel is. */
    private static final class Tag {
        private static final int MOST_BYTES = 26;

        private final byte[] bytes = new byte[MOST_BYTES];
        private int length = 0;

        private void put(int c) {
            if (length < bytes.length) {
                bytes[length] = (byte) c;
                length++;
            }
        }

        void putText(String text) {
            for (int i = 0; i < text.length(); i++) {
                put(text.charAt(i));
            }
        }

        void putName(long name) {
            for (int shift = 48; shift >= 0; shift -= 8) {
                int c = (int) (name >> shift) & 255;
                if (c != 0) {
                    put(c);
                }
            }
        }
    }

    /** What is to be done, line by line. */
    private static final class Book {
        private static final int MOST_BYTES = 400;
        private static final int MOST_LINES = 40;

        private final int[] what = new int[MOST_LINES];
        private final int[] first = new int[MOST_LINES];
        private final int[] second = new int[MOST_LINES];
        private int lines = 0;
        /** How many lines were not wrong when it was lived last. */
        private int lived = 0;

        void read(Tape tape, Post post) {
            tape.startText(MOST_BYTES);
            lines = 0;
            // A line more than there may be is read as far as its fault.
            for (int line = 0; line <= MOST_LINES && tape.goesOn(); line++) {
                int word = tape.kind;
                int p = word == NAME ? tape.nameAhead(post, PERSONS) : NONE;
                if (!beginsLine(tape, word)) {
                    return;
                }
                if (p != NONE) {
                    readVerb(tape, post, p);
                } else {
                    readOther(tape, post, word);
                }
                tape.passOnly(LINE_ENDS);
            }
        }

        /** Passes a line's first word, if such a line may come; a name was looked at already. */
        private boolean beginsLine(Tape tape, int word) {
            if (word != NAME && (word < OPEN || word > DAY)) {
                tape.refuse(CANNOT_COME);
            } else if (lines >= MOST_LINES) {
                tape.refuse(ONE_TOO_MANY);
            }
            tape.pass();
            return tape.fault == 0;
        }

        private void readVerb(Tape tape, Post post, int p) {
            int verb = tape.kind;
            if (verb < JOINS || verb > GUESSES) {
                tape.refuse(CANNOT_COME);
            }
            tape.pass();
            if (verb == JOINS) {
                addLine(verb, p, tape.takeName(post, PARCELS));
            } else if (verb == STANDS) {
                addLine(verb, p, NONE);
            } else {
                addLine(verb, p, tape.takeName(post, IDEAS));
            }
        }

        private void readOther(Tape tape, Post post, int kind) {
            if (kind == DAY) {
                addLine(kind, tape.takeNumber(1, MOST_DAYS_AT_ONCE), NONE);
                return;
            }
            int q = tape.takeName(post, PARCELS);
            addLine(kind, q, kind == CARRY ? tape.takeName(post, ROOMS) : NONE);
        }

        private void addLine(int does, int a, int b) {
            if (lines < MOST_LINES) {
                what[lines] = does;
                first[lines] = a;
                second[lines] = b;
                lines++;
            }
        }

        /** Lives as far as nothing is wrong: why it was wrong then, 0: it was not. */
        int liveIn(World world) {
            lived = 0;
            for (int line = 0; line < lines; line++) {
                int why = liveLine(world, line);
                if (why != 0) {
                    return why;
                }
                lived++;
            }
            return 0;
        }

        /** Why the line is wrong, 0: it is not, and was lived. */
        private int liveLine(World world, int line) {
            int a = first[line];
            int b = second[line];
            if (what[line] == DAY && a > world.daysLeft()) {
                return 61;
            }
            switch (what[line]) {
                case JOINS: return because(0, world.sitDown(a, b));
                case STANDS: return because(10, world.standUp(a));
                case WISHES: return because(20, world.wishFor(a, b));
                case GUESSES: return because(30, guessIn(world, a, b));
                case OPEN: return because(40, world.openUp(a));
                case CARRY: return because(50, world.carryTo(a, b));
                default:
                    world.goDays(a);
                    return 0;
            }
        }

        private static int because(int act, int whyNot) {
            return whyNot == 0 ? 0 : act + whyNot;
        }

        private static int guessIn(World world, int p, int i) {
            int whyNot = world.whyNoGuess(p);
            if (whyNot == 0) {
                world.guessAt(p, i);
            }
            return whyNot;
        }
    }

    /** What may be said of a parcel or not. */
    private static final class Sentence {
        private static final int MOST_BYTES = 200;
        private static final int MOST_ONES = 20;
        private static final int MOST_WITHIN = 8;
        private static final int GREATEST_NUMBER = 999;

        // Each step behind what it joins: what it asks, by which sign, of which number.
        // At most 20 ones and 19 that join them.
        private final int[] what = new int[2 * MOST_ONES];
        private final int[] sign = new int[2 * MOST_ONES];
        private final int[] value = new int[2 * MOST_ONES];
        private int steps = 0;
        private int ones = 0;

        void read(Tape tape, Post post) {
            tape.startText(MOST_BYTES);
            readCond(tape, post, 1);
            if (tape.goesOn()) {
                tape.refuse(CANNOT_COME);
            }
        }

        /** An 'or' waits for all that 'and' joins on its right; an 'and' for one alone. */
        private void readCond(Tape tape, Post post, int depth) {
            boolean orWaits = false;
            readOne(tape, post, depth);
            for (int n = 0; n < MOST_ONES && (tape.sees(OR) || tape.sees(AND)); n++) {
                boolean or = tape.sees(OR);
                tape.pass();
                if (or && orWaits) {
                    addStep(OR, 0, 0);
                }
                orWaits |= or;
                readOne(tape, post, depth);
                if (!or) {
                    addStep(AND, 0, 0);
                }
            }
            if (orWaits) {
                addStep(OR, 0, 0);
            }
        }

        private void readOne(Tape tape, Post post, int depth) {
            int kind = tape.kind;
            if (kind != BRACKET && (kind < NOT || kind > ITS_NUMBER)) {
                tape.refuse(CANNOT_COME);
            } else if (ones >= MOST_ONES || depth > MOST_WITHIN) {
                tape.refuse(ONE_TOO_MANY);
            }
            if (tape.fault != 0) {
                return;
            }
            tape.pass();
            ones++;
            if (kind == NOT) {
                readOne(tape, post, depth + 1);
                addStep(NOT, 0, 0);
            } else if (kind == BRACKET) {
                readCond(tape, post, depth + 1);
                tape.passOnly(BRACKET_ENDS);
            } else {
                readPlain(tape, post, kind);
            }
        }

        private void readPlain(Tape tape, Post post, int kind) {
            if (kind == IS) {
                addStep(kind, 0, tape.takeName(post, IDEAS));
            } else if (kind == IN) {
                addStep(kind, 0, tape.takeName(post, ROOMS));
            } else if (kind >= SIZE) {
                int how = tape.kind;
                if (how != LESS && how != LIKE && how != MORE) {
                    tape.refuse(CANNOT_COME);
                }
                tape.pass();
                addStep(kind, how, tape.takeNumber(0, GREATEST_NUMBER));
            } else {
                addStep(kind, 0, 0);
            }
        }

        private void addStep(int asks, int how, int number) {
            if (steps < what.length) {
                what[steps] = asks;
                sign[steps] = how;
                value[steps] = number;
                steps++;
            }
        }

        /** What holds so far lies as bits in one number, the latest lowest: at most 20 wait at once. */
        boolean holdsOf(World world, int q) {
            int bits = 0;
            for (int step = 0; step < steps; step++) {
                int top = bits & 1;
                switch (what[step]) {
                    case NOT:
                        bits ^= 1;
                        break;
                    case AND:
                        bits = bits >> 1 & (top | ~1);
                        break;
                    case OR:
                        bits = bits >> 1 | top;
                        break;
                    default:
                        bits = bits << 1 | (isSo(world, q, step) ? 1 : 0);
                        break;
                }
            }
            return (bits & 1) != 0;
        }

        private boolean isSo(World world, int q, int step) {
            int n = value[step];
            switch (what[step]) {
                case OPENED: return world.isOpen(q);
                case NOTHING: return world.isNow(q) == NONE;
                case WATCHED: return world.whoSitsBy(q) != 0;
                case IS: return world.isNow(q) == n;
                case IN: return world.room[q] == n;
                case SIZE: return compares(world.sizeOf(q), sign[step], n);
                case BULGE: return compares(world.bulge[q], sign[step], n);
                case TURNED: return compares(world.turned[q], sign[step], n);
                default: return compares(q, sign[step], n);
            }
        }

        private static boolean compares(int has, int how, int n) {
            if (how == LESS) {
                return has < n;
            }
            return how == MORE ? has > n : has == n;
        }
    }
}
