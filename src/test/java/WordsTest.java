/** Promises 21 to 35: words, orders and saying. */
public final class WordsTest {
    private static final Checks CHECKS = new Checks("WordsTest");

    public static void main(String[] args) {
        type();
        wipe();
        addOrder();
        needsOfLetters();
        setCode();
        say();
        sayNeeds();
        whoHears();
        tellOn();
        tellOnBelief();
        tell();
        knowsAndLetterAt();
        believes();
        isRight();
        fits();
        sourceChainAndToldAt();
        CHECKS.end();
    }

    private static void type() {
        MouthpieceRow house = new MouthpieceRow();
        char[] wrong = {'`', '{', 'A', 'Z', ' ', (char) 0, (char) 228, (char) 65535};
        for (char letter : wrong) {
            CHECKS.refuses("letter " + (int) letter, Checks.ARGUMENT, () -> house.type(letter));
        }
        CHECKS.same("a", 1, house.type('a'));
        CHECKS.same("z", 2, house.type('z'));
        for (int i = 3; i <= 12; i++) {
            CHECKS.same("letters", i, house.type('m'));
        }
        CHECKS.refuses("a 13th", Checks.STATE, () -> house.type('m'));
        CHECKS.refuses("a 13th, wrong", Checks.ARGUMENT, () -> house.type('M'));
        CHECKS.same("12 are typed", 12, house.wipe());
    }

    private static void wipe() {
        MouthpieceRow house = new MouthpieceRow();
        CHECKS.same("nothing", 0, house.wipe());
        Houses.type(house, "abc");
        CHECKS.same("three", 3, house.wipe());
        CHECKS.same("nothing", 0, house.wipe());
        CHECKS.same("from the beginning", 1, house.type('q'));
        CHECKS.same("order", 0, house.addOrder());
        CHECKS.same("an order takes it", 0, house.wipe());
    }

    private static void addOrder() {
        MouthpieceRow house = new MouthpieceRow();
        CHECKS.refuses("nothing typed", Checks.UNSUPPORTED, house::addOrder);
        String[] words = {"ab", "abc", "ba", "a", "abcdefghijkl", "b", "c"};
        for (int i = 0; i < words.length; i++) {
            CHECKS.same("order " + words[i], i, Houses.order(house, words[i]));
        }
        Houses.type(house, "abc");
        CHECKS.refuses("an order", Checks.UNSUPPORTED, house::addOrder);
        CHECKS.same("it stays typed", 4, house.type('d'));
        CHECKS.same("order", 7, house.addOrder());
        Houses.type(house, "e");
        CHECKS.refuses("a ninth", Checks.STATE, house::addOrder);
        CHECKS.same("it stays typed", 1, house.wipe());
        Houses.type(house, "ab");
        CHECKS.refuses("a ninth that is an order", Checks.UNSUPPORTED, house::addOrder);
        house.wipe();
        CHECKS.refuses("a ninth of nothing", Checks.UNSUPPORTED, house::addOrder);
    }

    /** All letters are said at each loudness; what is due is told by the document's three kinds. */
    private static void needsOfLetters() {
        for (int loudness = 0; loudness <= 18; loudness++) {
            for (int code = 0; code < 2; code++) {
                MouthpieceRow house = Houses.peopled(2);
                int call = house.call(0, 1);
                house.clog(0, 39 - loudness);
                house.setCode(code == 1);
                String[] halves = {"abcdefghijkl", "mnopqrstuvwx", "yz"};
                for (String half : halves) {
                    int message = Houses.say(house, call, half);
                    CHECKS.same("heard of " + half + " at " + loudness + ", code " + code,
                            due(half, loudness, code == 1), Houses.known(house, 1, message, half.length()));
                }
            }
        }
    }

    private static String due(String word, int loudness, boolean isCoded) {
        StringBuilder letters = new StringBuilder();
        for (char letter : word.toCharArray()) {
            int need;
            switch (letter) {
                case 'a': case 'e': case 'i': case 'o': case 'u':
                    need = isCoded ? 1 : 4;
                    break;
                case 'c': case 'f': case 'h': case 'k': case 'p': case 'q': case 's': case 't': case 'x':
                    need = isCoded ? 10 : 16;
                    break;
                default:
                    need = isCoded ? 4 : 10;
            }
            letters.append(loudness >= need ? letter : '.');
        }
        return letters.toString();
    }

    private static void setCode() {
        MouthpieceRow house = new MouthpieceRow();
        CHECKS.same("off at first", false, house.setCode(true));
        CHECKS.same("on", true, house.setCode(true));
        CHECKS.same("on", true, house.setCode(false));
        CHECKS.same("off", false, house.setCode(false));
    }

    private static void say() {
        MouthpieceRow house = Houses.peopled(2);
        int call = house.call(0, 1);
        CHECKS.same("message 0", 0, Houses.say(house, call, "tea"));
        CHECKS.same("what is said is not typed any more", 0, house.wipe());
        CHECKS.same("the author knows it", "tea", Houses.known(house, 0, 0, 3));
        CHECKS.same("the other one too", "tea", Houses.known(house, 1, 0, 3));
        CHECKS.same("message 1", 1, Houses.say(house, call, "tea"));
        CHECKS.same("it costs nothing more", 3, house.bill(0));
    }

    private static void sayNeeds() {
        MouthpieceRow house = Houses.peopled(2);
        CHECKS.refuses("no call", Checks.INDEX, () -> house.say(0));
        int call = house.call(0, 1);
        CHECKS.refuses("call -1", Checks.INDEX, () -> house.say(-1));
        CHECKS.refuses("call 1", Checks.INDEX, () -> house.say(1));
        CHECKS.refuses("nothing typed", Checks.UNSUPPORTED, () -> house.say(call));
        for (int i = 0; i < 40; i++) {
            CHECKS.same("message", i, Houses.say(house, call, "a"));
        }
        CHECKS.refuses("a 41st of nothing", Checks.UNSUPPORTED, () -> house.say(call));
        house.type('b');
        CHECKS.refuses("a 41st", Checks.STATE, () -> house.say(call));
        CHECKS.same("it stays typed", 2, house.type('b'));
        house.hang(call);
        CHECKS.refuses("not on", Checks.UNSUPPORTED, () -> house.say(call));
        CHECKS.refuses("no message 40", Checks.INDEX, () -> house.fate(40));
    }

    private static void whoHears() {
        MouthpieceRow house = Houses.peopled(4);
        int near = house.addPerson(0, 1);
        int sleeper = house.addPerson(0, 1);
        house.sleep(sleeper, 1);
        int call = house.call(0, 1);
        house.clog(1, 22);
        house.setNoise(2, 6);
        house.setValve(2, false);
        int message = Houses.say(house, call, "tan");
        CHECKS.same("in the own room", "tan", Houses.known(house, near, message, 3));
        CHECKS.same("not who sleeps", "...", Houses.known(house, sleeper, message, 3));
        CHECKS.same("in the room that is called", "tan", Houses.known(house, 1, message, 3));
        CHECKS.same("in a room behind, weaker, 10", ".an", Houses.known(house, 2, message, 3));
        CHECKS.same("not where nothing comes", "...", Houses.known(house, 3, message, 3));
        house.clog(1, 32);
        int second = Houses.say(house, call, "tan");
        CHECKS.same("as it is now, 0", "...", Houses.known(house, 2, second, 3));
        int late = house.addPerson(1, 1);
        CHECKS.same("who comes later knows nothing", "...", Houses.known(house, late, message, 3));
    }

    private static void tellOn() {
        MouthpieceRow house = Houses.peopled(4);
        int call = house.call(0, 1);
        house.clog(1, 22);
        house.setNoise(2, 6);
        house.setValve(2, false);
        int message = Houses.say(house, call, "tan");
        CHECKS.same("nobody more", 0, house.tellOn(call, message));
        house.setNoise(2, 0);
        CHECKS.same("one letter more", 1, house.tellOn(call, message));
        CHECKS.same("all of it", "tan", Houses.known(house, 2, message, 3));
        house.setValve(2, true);
        house.addPerson(0, 0);
        CHECKS.same("two more", 2, house.tellOn(call, message));
        CHECKS.refuses("call 1", Checks.INDEX, () -> house.tellOn(1, message));
        CHECKS.refuses("call -1", Checks.INDEX, () -> house.tellOn(-1, message));
        CHECKS.refuses("message 1", Checks.INDEX, () -> house.tellOn(call, 1));
        CHECKS.refuses("message -1", Checks.INDEX, () -> house.tellOn(call, -1));
        house.sleep(3, 1);
        int other = Houses.say(house, call, "o");
        house.sleep(3, 0);
        int fromThree = house.call(3, 2);
        CHECKS.refuses("no letter known", Checks.UNSUPPORTED, () -> house.tellOn(fromThree, other));
        house.hang(call);
        CHECKS.refuses("not on", Checks.UNSUPPORTED, () -> house.tellOn(call, message));
        CHECKS.same("by somebody who heard it", 0, house.tellOn(fromThree, message));
    }

    /** Person 1 hears 'a' of 'cat', guesses 'hat' from the orders, and tells that on. */
    private static void tellOnBelief() {
        MouthpieceRow house = Houses.peopled(3);
        int call = house.call(0, 1);
        house.setValve(1, false);
        house.clog(0, 34);
        int message = Houses.say(house, call, "cat");
        house.setValve(0, false);
        house.setValve(1, true);
        int second = house.call(1, 2);
        CHECKS.same("without orders a letter is told", 1, house.tellOn(second, message));
        CHECKS.same("with silent places", ".a.", Houses.known(house, 2, message, 3));
        Houses.order(house, "hat");
        CHECKS.same("the belief is told", 1, house.tellOn(second, message));
        CHECKS.same("and heard", "hat", Houses.known(house, 2, message, 3));
        CHECKS.same("who tells knows no more by that", ".a.", Houses.known(house, 1, message, 3));
        house.move(2, 0);
        CHECKS.same("the author knows all", false, house.tell(2, 0, message));
        CHECKS.same("and keeps it", "cat", Houses.known(house, 0, message, 3));
        CHECKS.same("wrong", false, house.isRight(2, message));
        CHECKS.same("nobody who knows a letter learns another one for it", "hat",
                Houses.known(house, 2, message, 3));
        int late = house.addPerson(0, 0);
        CHECKS.same("from the author", true, house.tell(0, late, message));
        CHECKS.same("the word", "cat", Houses.known(house, late, message, 3));
    }

    private static void tell() {
        MouthpieceRow house = Houses.peopled(2);
        int call = house.call(0, 1);
        house.sleep(1, 1);
        int message = Houses.say(house, call, "cat");
        house.hang(call);
        house.sleep(1, 0);
        int third = house.addPerson(1, 0);
        CHECKS.refuses("person 3", Checks.INDEX, () -> house.tell(3, 3, message));
        CHECKS.refuses("other 3", Checks.INDEX, () -> house.tell(0, 3, message));
        CHECKS.refuses("other -1", Checks.INDEX, () -> house.tell(0, -1, message));
        CHECKS.refuses("message 1", Checks.INDEX, () -> house.tell(0, 0, 1));
        CHECKS.refuses("message -1", Checks.INDEX, () -> house.tell(0, 1, -1));
        CHECKS.refuses("to oneself", Checks.ARGUMENT, () -> house.tell(0, 0, message));
        CHECKS.refuses("unlike rooms", Checks.UNSUPPORTED, () -> house.tell(0, 1, message));
        CHECKS.refuses("nothing known", Checks.UNSUPPORTED, () -> house.tell(1, third, message));
        house.setNoise(1, 9);
        house.move(0, 1);
        house.sleep(1, 1);
        CHECKS.refuses("the other one sleeps", Checks.UNSUPPORTED, () -> house.tell(0, 1, message));
        house.sleep(1, 0);
        house.sleep(0, 1);
        CHECKS.refuses("who tells sleeps", Checks.UNSUPPORTED, () -> house.tell(0, 1, message));
        house.sleep(0, 0);
        CHECKS.same("a letter more", true, house.tell(0, 1, message));
        CHECKS.same("all is heard", "cat", Houses.known(house, 1, message, 3));
        CHECKS.same("none more", false, house.tell(0, 1, message));
        CHECKS.same("the third heard nothing", "...", Houses.known(house, third, message, 3));
        CHECKS.same("on and on", true, house.tell(1, third, message));
    }

    private static void knowsAndLetterAt() {
        MouthpieceRow house = Houses.peopled(2);
        int call = house.call(0, 1);
        house.clog(0, 34);
        int message = Houses.say(house, call, "cat");
        CHECKS.same("no t", false, house.knows(1, message, 2));
        CHECKS.same("an a", true, house.knows(1, message, 1));
        CHECKS.same("the a", 'a', house.letterAt(1, message, 1));
        CHECKS.same("the author's c", 'c', house.letterAt(0, message, 0));
        CHECKS.refuses("the t", Checks.MISSING, () -> house.letterAt(1, message, 2));
        int[] wrong = {-1, 3, Integer.MAX_VALUE};
        for (int place : wrong) {
            CHECKS.refuses("knows place " + place, Checks.MISSING, () -> house.knows(0, message, place));
            CHECKS.refuses("letter at " + place, Checks.MISSING, () -> house.letterAt(0, message, place));
        }
        int[][] nobody = {{2, 0}, {-1, 0}, {0, 1}, {0, -1}};
        for (int[] pair : nobody) {
            String what = " of person " + pair[0] + ", message " + pair[1];
            CHECKS.refuses("knows" + what, Checks.INDEX, () -> house.knows(pair[0], pair[1], 9));
            CHECKS.refuses("letterAt" + what, Checks.INDEX, () -> house.letterAt(pair[0], pair[1], 9));
            CHECKS.refuses("believes" + what, Checks.INDEX, () -> house.believes(pair[0], pair[1]));
            CHECKS.refuses("isRight" + what, Checks.INDEX, () -> house.isRight(pair[0], pair[1]));
            CHECKS.refuses("fits" + what, Checks.INDEX, () -> house.fits(pair[0], pair[1]));
            CHECKS.refuses("source" + what, Checks.INDEX, () -> house.source(pair[0], pair[1]));
            CHECKS.refuses("chain" + what, Checks.INDEX, () -> house.chain(pair[0], pair[1]));
            CHECKS.refuses("toldAt" + what, Checks.INDEX, () -> house.toldAt(pair[0], pair[1]));
        }
    }

    private static void believes() {
        MouthpieceRow house = Houses.halfHeard();
        CHECKS.same("the author, without orders", true, house.believes(0, 0));
        CHECKS.same("half heard, without orders", false, house.believes(1, 0));
        Houses.order(house, "cats");
        Houses.order(house, "ham");
        CHECKS.same("the only one", true, house.believes(1, 0));
        CHECKS.same("no letter known", false, house.believes(2, 0));
        Houses.order(house, "cot");
        CHECKS.same("another letter in the place", true, house.believes(1, 0));
        Houses.order(house, "cat");
        CHECKS.same("two fit", false, house.believes(1, 0));
        CHECKS.same("the author still", true, house.believes(0, 0));
    }

    private static void isRight() {
        MouthpieceRow house = Houses.halfHeard();
        CHECKS.same("the author", true, house.isRight(0, 0));
        CHECKS.refuses("half heard", Checks.MISSING, () -> house.isRight(1, 0));
        CHECKS.refuses("not heard", Checks.MISSING, () -> house.isRight(2, 0));
        Houses.order(house, "ham");
        CHECKS.same("a wrong guess", false, house.isRight(1, 0));
        CHECKS.refuses("no guess without a letter", Checks.MISSING, () -> house.isRight(2, 0));
        MouthpieceRow other = Houses.halfHeard();
        Houses.order(other, "cat");
        CHECKS.same("a right guess", true, other.isRight(1, 0));
    }

    private static void fits() {
        MouthpieceRow house = Houses.halfHeard();
        CHECKS.same("no orders", 0, house.fits(1, 0));
        for (String word : new String[] {"cats", "ham", "cot", "at", "cat"}) {
            Houses.order(house, word);
        }
        CHECKS.same("of cat", 1, house.fits(0, 0));
        CHECKS.same("of .a.", 2, house.fits(1, 0));
        Houses.order(house, "dat");
        CHECKS.same("another first letter", 1, house.fits(0, 0));
        CHECKS.same("of ...", 4, house.fits(2, 0));
    }

    private static void sourceChainAndToldAt() {
        MouthpieceRow house = Houses.halfHeard();
        house.hang(0);
        house.pass(7);
        CHECKS.refuses("the author has no source", Checks.MISSING, () -> house.source(0, 0));
        CHECKS.same("the author's chain", 0, house.chain(0, 0));
        CHECKS.same("the author's minute", 0, house.toldAt(0, 0));
        CHECKS.refuses("source of nothing", Checks.MISSING, () -> house.source(2, 0));
        CHECKS.refuses("chain of nothing", Checks.MISSING, () -> house.chain(2, 0));
        CHECKS.refuses("minute of nothing", Checks.MISSING, () -> house.toldAt(2, 0));
        house.tell(1, 2, 0);
        CHECKS.same("source", 0, house.source(1, 0));
        CHECKS.same("source", 1, house.source(2, 0));
        CHECKS.same("chain", 1, house.chain(1, 0));
        CHECKS.same("chain", 2, house.chain(2, 0));
        CHECKS.same("minute", 0, house.toldAt(1, 0));
        CHECKS.same("minute", 7, house.toldAt(2, 0));
        house.pass(3);
        house.move(0, 1);
        CHECKS.same("the rest from the author", true, house.tell(0, 2, 0));
        CHECKS.same("the source of the first letter stays", 1, house.source(2, 0));
        CHECKS.same("the minute of the first letter stays", 7, house.toldAt(2, 0));
        house.tell(2, 1, 0);
        CHECKS.same("the chain goes by first letters", 2, house.chain(2, 0));
        CHECKS.same("and does not go round", 1, house.chain(1, 0));
        longChain();
        tooWeak();
    }

    private static void tooWeak() {
        MouthpieceRow house = Houses.peopled(2);
        int call = house.call(0, 1);
        house.clog(0, 36);
        Houses.say(house, call, "tea");
        CHECKS.same("something is heard, but no letter", 3, house.heard(0, 1));
        CHECKS.refuses("no source by that", Checks.MISSING, () -> house.source(1, 0));
        CHECKS.refuses("no minute by that", Checks.MISSING, () -> house.toldAt(1, 0));
        house.pass(2);
        house.clog(0, 35);
        CHECKS.same("vowels", 1, house.tellOn(call, 0));
        CHECKS.same("minute of the first letter", 2, house.toldAt(1, 0));
        CHECKS.same("letters", ".ea", Houses.known(house, 1, 0, 3));
    }

    private static void longChain() {
        MouthpieceRow house = Houses.apart(10);
        house.setLine(0, 0);
        house.setLine(1, 1);
        Houses.type(house, "a");
        house.phoneSay(0, 1);
        for (int i = 2; i < 10; i++) {
            house.move(i, i % 2 == 0 ? 1 : 2);
        }
        for (int i = 1; i < 9; i++) {
            house.move(i, 3);
            house.move(i + 1, 3);
            CHECKS.same("told on", true, house.tell(i, i + 1, 0));
            CHECKS.same("chain", i + 1, house.chain(i + 1, 0));
        }
    }
}
