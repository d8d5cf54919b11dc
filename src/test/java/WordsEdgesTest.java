/** The shortest and the longest words; what is just heard, just believed, just not; who learns nothing more. */
public final class WordsEdgesTest {
    private static final Checks CHECKS = new Checks("WordsEdgesTest");
    private static final String LONGEST = "abcdefghijkl";

    public static void main(String[] args) {
        smallLetters();
        wipeAtEachLength();
        typedInOrder();
        ordersAreWholeWords();
        codeOnAndOff();
        heardByNobody();
        heardByAll();
        hearsOnlyAwake();
        hearsInTheOwnRoom();
        shortestAndLongestWord();
        lastLetterThatIsMissing();
        beliefByOrders();
        beliefWithoutALetter();
        beliefOfAllLetters();
        fitsOfEach();
        lettersStay();
        faceToFace();
        tellSilentPlaces();
        firstLetterTellsTheSource();
        chains();
        firstAndLastMinute();
        fates();
        deedOnce();
        telephoneLines();
        telephoneNoise();
        CHECKS.end();
    }

    private static void smallLetters() {
        for (char letter = 0; letter < 256; letter++) {
            MouthpieceRow house = new MouthpieceRow();
            char typed = letter;
            if (letter >= 'a' && letter <= 'z') {
                CHECKS.same("letter " + letter, 1, house.type(letter));
            } else {
                CHECKS.refuses("sign " + (int) letter, Checks.ARGUMENT, () -> house.type(typed));
                CHECKS.same("nothing is typed", 0, house.wipe());
            }
        }
    }

    private static void wipeAtEachLength() {
        MouthpieceRow house = new MouthpieceRow();
        for (int length = 0; length <= 12; length++) {
            Houses.type(house, LONGEST.substring(0, length));
            CHECKS.same("typed", length, house.wipe());
            CHECKS.same("nothing then", 0, house.wipe());
        }
    }

    private static void typedInOrder() {
        MouthpieceRow house = Houses.peopled(2);
        house.call(0, 1);
        Houses.type(house, "xyz");
        house.wipe();
        Houses.say(house, 0, "ab");
        CHECKS.same("what was wiped is not said", "ab", Houses.known(house, 0, 0, 2));
        CHECKS.refuses("two letters alone", Checks.MISSING, () -> house.knows(0, 0, 2));
        Houses.say(house, 0, "ba");
        CHECKS.same("the next one", "ba", Houses.known(house, 1, 1, 2));
    }

    private static void ordersAreWholeWords() {
        MouthpieceRow house = new MouthpieceRow();
        String[] words = {LONGEST, "abcdefghijk", "a", "bcdefghijkl", "abcdefghijkm", "b"};
        for (int i = 0; i < words.length; i++) {
            CHECKS.same("order", i, Houses.order(house, words[i]));
        }
        for (String word : words) {
            Houses.type(house, word);
            CHECKS.refuses("the same again", Checks.UNSUPPORTED, house::addOrder);
            CHECKS.same("it stays typed", word.length(), house.wipe());
        }
    }

    private static void codeOnAndOff() {
        MouthpieceRow house = new MouthpieceRow();
        boolean before = false;
        for (boolean is : new boolean[] {false, true, true, false, true}) {
            CHECKS.same("the code before", before, house.setCode(is));
            before = is;
        }
    }

    private static void heardByNobody() {
        MouthpieceRow house = Houses.peopled(1);
        house.addRoom(0, 0, true);
        house.addPipe(0, 1, 4, 0, 0);
        house.call(0, 1);
        CHECKS.same("said to an empty room", 0, Houses.say(house, 0, "e"));
        CHECKS.same("told on to it", 0, house.tellOn(0, 0));
        MouthpieceRow silent = Houses.peopled(2);
        silent.setCode(true);
        silent.call(0, 1);
        silent.clog(0, 39);
        Houses.say(silent, 0, "e");
        CHECKS.same("where 0 is heard", false, silent.knows(1, 0, 0));
        silent.clog(0, 38);
        CHECKS.same("where 1 is heard, with the code", 1, silent.tellOn(0, 0));
        silent.setCode(false);
        Houses.say(silent, 0, "e");
        CHECKS.same("where 1 is heard, without", false, silent.knows(1, 1, 0));
    }

    private static void heardByAll() {
        MouthpieceRow house = Houses.peopled(10);
        house.call(4, 5);
        Houses.say(house, 0, "q");
        for (int i = 0; i < 10; i++) {
            CHECKS.same("heard by " + i, true, house.knows(i, 0, 0));
        }
        house.sleep(0, 1);
        house.sleep(9, 9);
        Houses.say(house, 0, "q");
        house.sleep(0, 0);
        house.sleep(9, 0);
        CHECKS.same("both ends learn it", 2, house.tellOn(0, 1));
    }

    private static void hearsOnlyAwake() {
        for (int depth = 0; depth <= 9; depth++) {
            MouthpieceRow house = Houses.peopled(2);
            house.call(0, 1);
            house.sleep(1, depth);
            Houses.say(house, 0, "q");
            CHECKS.same("at depth " + depth, depth == 0, house.knows(1, 0, 0));
            CHECKS.same("nobody wakes by that", depth, house.depth(1));
        }
    }

    /** The noise of the own room counts there: 40 less 9 is enough for all letters. */
    private static void hearsInTheOwnRoom() {
        MouthpieceRow house = Houses.peopled(2);
        house.addPerson(0, 0);
        house.setNoise(0, 9);
        house.call(0, 1);
        house.setValve(0, false);
        CHECKS.refuses("the call ended", Checks.UNSUPPORTED, () -> Houses.say(house, 0, "qx"));
        house.setValve(0, true);
        house.call(0, 1);
        house.clog(0, 40);
        house.say(1);
        CHECKS.same("beside the caller", "qx", Houses.known(house, 2, 0, 2));
        CHECKS.same("in the room that is called", "..", Houses.known(house, 1, 0, 2));
    }

    private static void shortestAndLongestWord() {
        for (String word : new String[] {"z", LONGEST}) {
            MouthpieceRow house = Houses.peopled(2);
            house.call(0, 1);
            Houses.say(house, 0, word);
            int length = word.length();
            CHECKS.same("heard", word, Houses.known(house, 1, 0, length));
            CHECKS.same("believed", true, house.believes(1, 0) && house.isRight(1, 0));
            CHECKS.refuses("no place " + length, Checks.MISSING, () -> house.knows(1, 0, length));
            CHECKS.refuses("no letter " + length, Checks.MISSING, () -> house.letterAt(1, 0, length));
            CHECKS.same("no order fits", 0, house.fits(1, 0));
            Houses.order(house, word);
            CHECKS.same("one order fits", 1, house.fits(1, 0));
        }
    }

    /** Somebody knows all but the t of a long word. */
    private static void lastLetterThatIsMissing() {
        for (int at = 0; at < 12; at++) {
            StringBuilder word = new StringBuilder("aaaaaaaaaaaa");
            word.setCharAt(at, 't');
            MouthpieceRow house = Houses.peopled(2);
            house.call(0, 1);
            house.clog(0, 24);
            Houses.say(house, 0, word.toString());
            CHECKS.same("at 15 the t is missing", false, house.knows(1, 0, at));
            CHECKS.same("one letter is missing", false, house.believes(1, 0));
            Houses.order(house, "aaaaaaaaaaaa");
            CHECKS.same("believed by an order", false, house.isRight(1, 0));
            CHECKS.same("'k' by that", 'k', house.fate(0));
            house.clog(0, 23);
            CHECKS.same("at 16 it is heard", 1, house.tellOn(0, 0));
            CHECKS.same("all letters, and no order", true, house.isRight(1, 0));
            CHECKS.same("no order fits", 0, house.fits(1, 0));
        }
    }

    /** Person 1 knows .a. of 'cat': each row has orders, how many fit, and whether 'cat' is believed. */
    private static void beliefByOrders() {
        String[][] rows = {{"0", "-"}, {"0", "-", "a"}, {"0", "-", "at"}, {"0", "-", "cats"}, {"0", "-", "cot"},
            {"0", "-", "act"}, {"1", "y", "cat"}, {"1", "n", "cab"}, {"1", "n", "bat"}, {"1", "y", "cot", "cat"},
            {"1", "y", "cats", "cat", "at"}, {"2", "-", "cat", "bat"}, {"2", "-", "bat", "cat"},
            {"1", "n", "bat", "bit"}, {"3", "-", "cat", "bat", "hat"}, {"1", "y", "a", "b", "c", "d", "e", "f", "g",
                "cat"}, {"7", "-", "bat", "cat", "dat", "eat", "fat", "g", "hat", "iat"}};
        for (String[] row : rows) {
            MouthpieceRow house = Houses.halfHeard();
            for (int i = 2; i < row.length; i++) {
                Houses.order(house, row[i]);
            }
            String what = String.join(" ", row);
            CHECKS.same("fits, " + what, Integer.parseInt(row[0]), house.fits(1, 0));
            CHECKS.same("believes, " + what, !row[1].equals("-"), house.believes(1, 0));
            if (row[1].equals("-")) {
                CHECKS.refuses("nothing, " + what, Checks.MISSING, () -> house.isRight(1, 0));
                CHECKS.refuses("done, " + what, Checks.UNSUPPORTED, () -> house.doIt(1, 0));
            } else {
                CHECKS.same("right, " + what, row[1].equals("y"), house.isRight(1, 0));
                CHECKS.same("done rightly, " + what, row[1].equals("y"), house.doIt(1, 0));
            }
        }
    }

    private static void beliefWithoutALetter() {
        MouthpieceRow house = Houses.halfHeard();
        Houses.order(house, "cat");
        CHECKS.same("one order fits", 1, house.fits(2, 0));
        CHECKS.same("but nothing is believed", false, house.believes(2, 0));
        CHECKS.refuses("nothing is right", Checks.MISSING, () -> house.isRight(2, 0));
        CHECKS.refuses("nothing is done", Checks.UNSUPPORTED, () -> house.doIt(2, 0));
        CHECKS.refuses("nothing is told", Checks.UNSUPPORTED, () -> house.tell(2, 1, 0));
    }

    private static void beliefOfAllLetters() {
        MouthpieceRow house = Houses.halfHeard();
        Houses.order(house, "bat");
        house.doIt(0, 0);
        CHECKS.same("the author, against the only order", true, house.isRight(0, 0));
        house.tell(1, 2, 0);
        CHECKS.same("all letters of a wrong belief", "bat", Houses.known(house, 2, 0, 3));
        Houses.order(house, "cat");
        CHECKS.same("they are believed for good", false, house.isRight(2, 0));
        CHECKS.same("who guessed believes no more", false, house.believes(1, 0));
        CHECKS.same("one fits", 1, house.fits(2, 0));
    }

    private static void fitsOfEach() {
        MouthpieceRow house = Houses.halfHeard();
        String[] words = {"bat", "cab", "dad", "eat", "fan", "gas", "ham", "jam"};
        for (int i = 0; i < words.length; i++) {
            CHECKS.same("of .a.", i, house.fits(1, 0));
            CHECKS.same("of ...", i, house.fits(2, 0));
            CHECKS.same("of cat", 0, house.fits(0, 0));
            Houses.order(house, words[i]);
        }
        CHECKS.same("all 8", 8, house.fits(1, 0));
    }

    private static void lettersStay() {
        MouthpieceRow house = Houses.halfHeard();
        Houses.order(house, "bar");
        house.tell(1, 2, 0);
        house.clog(0, 0);
        CHECKS.same("the other two letters for person 1 alone", 1, house.tellOn(0, 0));
        CHECKS.same("person 1", "cat", Houses.known(house, 1, 0, 3));
        CHECKS.same("person 2 knows all and keeps it", "bar", Houses.known(house, 2, 0, 3));
        CHECKS.same("nobody more", 0, house.tellOn(0, 0));
        CHECKS.same("nor face to face", false, house.tell(1, 2, 0));
        CHECKS.same("and back", false, house.tell(2, 1, 0));
    }

    private static void faceToFace() {
        for (int noise = 0; noise <= 9; noise += 9) {
            MouthpieceRow house = Houses.apart(2);
            house.addPerson(0, 0);
            house.setNoise(0, noise);
            house.setLine(0, 0);
            house.setLine(1, 1);
            house.sleep(1, 9);
            Houses.type(house, "qxz");
            house.phoneSay(0, 1);
            CHECKS.same("not heard beside the telephone", "...", Houses.known(house, 2, 0, 3));
            CHECKS.same("told in noise " + noise, true, house.tell(0, 2, 0));
            CHECKS.same("all is heard", "qxz", Houses.known(house, 2, 0, 3));
            CHECKS.same("not by who sleeps elsewhere", "...", Houses.known(house, 1, 0, 3));
        }
    }

    private static void tellSilentPlaces() {
        MouthpieceRow house = Houses.halfHeard();
        CHECKS.same("one letter", true, house.tell(1, 2, 0));
        CHECKS.same("the others are silent", ".a.", Houses.known(house, 2, 0, 3));
        CHECKS.same("no letter more", false, house.tell(1, 2, 0));
        CHECKS.same("nor back", false, house.tell(2, 1, 0));
        Houses.order(house, "map");
        CHECKS.same("a belief now", true, house.tell(1, 2, 0));
        CHECKS.same("the other places", "map", Houses.known(house, 2, 0, 3));
        CHECKS.same("and back", true, house.tell(2, 1, 0));
    }

    private static void firstLetterTellsTheSource() {
        MouthpieceRow house = Houses.halfHeard();
        house.pass(5);
        house.tell(1, 2, 0);
        house.hang(0);
        house.pass(5);
        house.move(0, 1);
        CHECKS.same("more letters from the author", true, house.tell(0, 2, 0));
        CHECKS.same("the first one's source", 1, house.source(2, 0));
        CHECKS.same("the first one's minute", 5, house.toldAt(2, 0));
        CHECKS.same("the first one's chain", 2, house.chain(2, 0));
        int late = house.addPerson(1, 0);
        CHECKS.same("a later person", true, house.tell(0, late, 0));
        CHECKS.same("the author's", 0, house.source(late, 0));
        CHECKS.same("later", 10, house.toldAt(late, 0));
        CHECKS.same("nearer", 1, house.chain(late, 0));
    }

    /** Each of ten people in a room tells the next one what the first one said. */
    private static void chains() {
        MouthpieceRow house = Houses.row(1);
        for (int i = 0; i < 10; i++) {
            house.addPerson(0, 0);
        }
        house.setLine(0, 0);
        house.addRoom(0, 0, true);
        house.setLine(1, 0);
        Houses.type(house, "a");
        house.phoneSay(9, 1);
        CHECKS.same("the author", 0, house.chain(9, 0));
        for (int i = 8; i >= 0; i--) {
            house.pass(1);
            CHECKS.same("told", true, house.tell(i + 1, i, 0));
            CHECKS.same("chain", 9 - i, house.chain(i, 0));
            CHECKS.same("source", i + 1, house.source(i, 0));
            CHECKS.same("minute", 9 - i, house.toldAt(i, 0));
        }
        CHECKS.same("sound", true, house.isSound());
    }

    private static void firstAndLastMinute() {
        MouthpieceRow house = Houses.peopled(2);
        house.call(0, 1);
        Houses.say(house, 0, "a");
        for (int i = 0; i < 17; i++) {
            house.pass(i < 16 ? 600 : 399);
        }
        Houses.say(house, 0, "a");
        CHECKS.same("said at 0", 0, house.toldAt(0, 0));
        CHECKS.same("heard at 0", 0, house.toldAt(1, 0));
        CHECKS.same("said at 9999", 9999, house.toldAt(0, 1));
        CHECKS.same("heard at 9999", 9999, house.toldAt(1, 1));
        CHECKS.same("sound", true, house.isSound());
    }

    private static void fates() {
        MouthpieceRow house = Houses.halfHeard();
        house.clog(0, 40);
        Houses.say(house, 0, "bat");
        CHECKS.same("one letter known to one", 'h', house.fate(0));
        CHECKS.same("known to nobody else", 'n', house.fate(1));
        Houses.order(house, "bat");
        CHECKS.same("an order changes nothing for that", 'n', house.fate(1));
        CHECKS.same("but for the other one", 'k', house.fate(0));
        house.sleep(1, 9);
        CHECKS.same("who sleeps believes still", 'k', house.fate(0));
        CHECKS.same("the author does it", true, house.doIt(0, 1));
        CHECKS.same("rightly, known to nobody else", 'd', house.fate(1));
        house.sleep(1, 0);
        house.doIt(1, 0);
        CHECKS.same("wrongly, though the author knows", 'w', house.fate(0));
        Houses.order(house, "cat");
        CHECKS.same("wrongly for good", 'w', house.fate(0));
    }

    private static void deedOnce() {
        MouthpieceRow house = Houses.peopled(3);
        house.call(0, 1);
        Houses.say(house, 0, "e");
        Houses.say(house, 0, "e");
        CHECKS.same("the first", true, house.doIt(1, 0));
        for (int i = 0; i < 3; i++) {
            int person = i;
            CHECKS.refuses("again by " + i, Checks.UNSUPPORTED, () -> house.doIt(person, 0));
        }
        CHECKS.same("a like message", true, house.doIt(1, 1));
        CHECKS.same("both", 1.0f, house.rightShare());
        CHECKS.same("told on still", 0, house.tellOn(0, 0));
    }

    private static void telephoneLines() {
        for (int line = 0; line <= 3; line++) {
            MouthpieceRow house = Houses.apart(7);
            for (int room = 0; room < 4; room++) {
                house.setLine(room, room);
            }
            house.setLine(4, line);
            house.setLine(5, (line + 1) % 4);
            Houses.type(house, "q");
            house.phoneSay(5, line);
            for (int i = 0; i < 7; i++) {
                boolean isDue = i == line || i == 4 || i == 5;
                CHECKS.same("line " + line + ", person " + i, isDue, house.knows(i, 0, 0));
            }
            CHECKS.same("paid once", 1, house.bill(5));
            house.setLine(4, -1);
            Houses.type(house, "q");
            house.phoneSay(5, line);
            CHECKS.same("no telephone any more", false, house.knows(4, 1, 0));
        }
    }

    /** 30 less a noise of 9 is enough for all letters; the noise of where it is said does not count. */
    private static void telephoneNoise() {
        MouthpieceRow house = Houses.peopled(2);
        house.setNoise(0, 9);
        house.setNoise(1, 9);
        house.setValve(0, false);
        house.clog(0, 40);
        house.setLine(0, 3);
        house.setLine(1, 3);
        Houses.type(house, LONGEST);
        house.phoneSay(0, 1);
        CHECKS.same("all", LONGEST, Houses.known(house, 1, 0, 12));
        house.sleep(1, 1);
        Houses.type(house, "a");
        house.phoneSay(0, 1);
        CHECKS.same("not asleep", false, house.knows(1, 1, 0));
        CHECKS.same("it wakes nobody", 1, house.depth(1));
        CHECKS.same("told on to nobody", 0, house.phoneOn(0, 1, 1));
        CHECKS.same("three times paid", 3, house.bill(0));
    }
}
