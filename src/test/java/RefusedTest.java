/**
 * Each cause for which a call is refused that is neither a wrong number nor a full house: by itself, beside the
 * nearest state in which it is not refused, and behind what the document lists ahead. It changes nothing.
 */
public final class RefusedTest {
    private static final Checks CHECKS = new Checks("RefusedTest");
    private static final Refusals BUSY = new Refusals(CHECKS, "busy", Houses::busy);
    private static final int CALLER = 0;
    private static final int SLEEPER = 3;

    public static void main(String[] args) {
        addPipe();
        wayLength();
        wayAt();
        addPerson();
        sleep();
        move();
        whistle();
        call();
        callByRank();
        addOrder();
        say();
        tellOn();
        tell();
        knows();
        letterAt();
        isRight();
        sourceChainAndToldAt();
        doIt();
        alarm();
        passOn();
        setLine();
        phoneSay();
        phoneOn();
        sums();
        CHECKS.end();
    }

    private static void addPipe() {
        for (int room = 0; room < 5; room++) {
            int same = room;
            BUSY.refuse("a pipe in room " + room, Checks.ARGUMENT, house -> house.addPipe(same, same, 4, 0, 0));
        }
        BUSY.refuse("a pipe in no room", Checks.INDEX, house -> house.addPipe(5, 5, 4, 0, 0));
        BUSY.refuse("a pipe in no room", Checks.INDEX, house -> house.addPipe(-1, -1, 0, -1, -1));
        CHECKS.same("between neighbours", 5, Houses.busy().addPipe(4, 3, 1, 0, 0));
    }

    private static void wayLength() {
        BUSY.refuse("behind a shut pipe", Checks.MISSING, house -> house.wayLength(0, Houses.FAR));
        BUSY.refuse("from behind a shut pipe", Checks.MISSING, house -> house.wayLength(Houses.FAR, 0));
        BUSY.refuse("too weak", Checks.MISSING, house -> house.wayLength(1, 2));
        CHECKS.same("in the own room", 0, Houses.busy().wayLength(Houses.FAR, Houses.FAR));
        CHECKS.same("just heard", 1, Houses.busy().wayLength(0, 1));
    }

    private static void wayAt() {
        BUSY.refuse("behind a shut pipe", Checks.MISSING, house -> house.wayAt(0, Houses.FAR, 0));
        BUSY.refuse("too weak", Checks.MISSING, house -> house.wayAt(1, 2, 0));
        int[] wrong = {-1, 1, 2, Integer.MIN_VALUE, Integer.MAX_VALUE};
        for (int index : wrong) {
            BUSY.refuse("index " + index, Checks.MISSING, house -> house.wayAt(0, 1, index));
            BUSY.refuse("index of no room " + index, Checks.INDEX, house -> house.wayAt(0, 5, index));
        }
        BUSY.refuse("index 0 in the own room", Checks.MISSING, house -> house.wayAt(1, 1, 0));
        BUSY.refuse("index -1 in the own room", Checks.MISSING, house -> house.wayAt(1, 1, -1));
        CHECKS.same("index 0", 0, Houses.busy().wayAt(0, 1, 0));
    }

    private static void addPerson() {
        BUSY.refuse("no mouthpiece", Checks.UNSUPPORTED, house -> house.addPerson(Houses.MUTE, 0));
        BUSY.refuse("no mouthpiece, last rank", Checks.UNSUPPORTED, house -> house.addPerson(Houses.MUTE, 9));
        BUSY.refuse("no mouthpiece, wrong rank", Checks.ARGUMENT, house -> house.addPerson(Houses.MUTE, 10));
        BUSY.refuse("no mouthpiece, wrong rank", Checks.ARGUMENT, house -> house.addPerson(Houses.MUTE, -1));
        CHECKS.same("beside it", 6, Houses.busy().addPerson(Houses.FAR, 0));
    }

    private static void sleep() {
        for (int depth : new int[] {0, 1, 9}) {
            BUSY.refuse("a caller to " + depth, Checks.UNSUPPORTED, house -> house.sleep(CALLER, depth));
        }
        BUSY.refuse("a caller, too deep", Checks.ARGUMENT, house -> house.sleep(CALLER, 10));
        MouthpieceRow house = Houses.busy();
        CHECKS.same("who was a caller", 0, house.sleep(5, 9));
        CHECKS.same("who is called", 0, house.sleep(1, 9));
        CHECKS.same("the same depth again", 9, house.sleep(1, 9));
        house.setValve(0, false);
        CHECKS.same("a caller whose pipe was shut", 0, house.sleep(CALLER, 1));
    }

    private static void move() {
        BUSY.refuse("a sleeper", Checks.UNSUPPORTED, house -> house.move(SLEEPER, 0));
        BUSY.refuse("a sleeper to the own room", Checks.UNSUPPORTED, house -> house.move(SLEEPER, 2));
        BUSY.refuse("a caller", Checks.UNSUPPORTED, house -> house.move(CALLER, 1));
        BUSY.refuse("a caller to the own room", Checks.UNSUPPORTED, house -> house.move(CALLER, 0));
        BUSY.refuse("to no mouthpiece", Checks.UNSUPPORTED, house -> house.move(1, Houses.MUTE));
        BUSY.refuse("a sleeper to no room", Checks.INDEX, house -> house.move(SLEEPER, 5));
        BUSY.refuse("nobody to no mouthpiece", Checks.INDEX, house -> house.move(6, Houses.MUTE));
        MouthpieceRow house = Houses.busy();
        CHECKS.same("who is called", 1, house.move(1, Houses.FAR));
        CHECKS.same("to the own room", Houses.FAR, house.move(1, Houses.FAR));
        house.hang(1);
        CHECKS.same("who was a caller", 0, house.move(CALLER, 1));
        house.sleep(SLEEPER, 0);
        CHECKS.same("who slept", 2, house.move(SLEEPER, 1));
    }

    private static void whistle() {
        BUSY.refuse("a sleeper", Checks.UNSUPPORTED, house -> house.whistle(SLEEPER, 0));
        BUSY.refuse("to the own room", Checks.UNSUPPORTED, house -> house.whistle(2, 2));
        BUSY.refuse("a sleeper to the own room", Checks.UNSUPPORTED, house -> house.whistle(SLEEPER, 2));
        BUSY.refuse("a sleeper to no room", Checks.INDEX, house -> house.whistle(SLEEPER, 5));
        MouthpieceRow house = Houses.busy();
        CHECKS.same("a caller to a room without mouthpiece", 0, house.whistle(CALLER, Houses.MUTE));
        CHECKS.same("where nothing comes", 0, house.whistle(CALLER, Houses.FAR));
        CHECKS.same("over the pipe of a call", 0, house.whistle(CALLER, 1));
        CHECKS.same("that goes on", true, house.isOn(1));
        CHECKS.same("it costs nothing", 3, house.bill(0));
    }

    private static void call() {
        BUSY.refuse("a sleeper", Checks.UNSUPPORTED, house -> house.call(SLEEPER, 0));
        BUSY.refuse("a caller to where the call goes", Checks.UNSUPPORTED, house -> house.call(CALLER, 1));
        BUSY.refuse("a caller to another room", Checks.UNSUPPORTED, house -> house.call(CALLER, 2));
        BUSY.refuse("to the own room", Checks.UNSUPPORTED, house -> house.call(2, 2));
        BUSY.refuse("to no mouthpiece", Checks.UNSUPPORTED, house -> house.call(2, Houses.MUTE));
        BUSY.refuse("sound is too weak", Checks.UNSUPPORTED, house -> house.call(1, 2));
        BUSY.refuse("to behind a shut pipe", Checks.UNSUPPORTED, house -> house.call(2, Houses.FAR));
        BUSY.refuse("from behind a shut pipe", Checks.UNSUPPORTED, house -> house.call(4, 0));
        BUSY.refuse("a sleeper to no room", Checks.INDEX, house -> house.call(SLEEPER, 5));
        BUSY.refuse("nobody to no mouthpiece", Checks.INDEX, house -> house.call(6, Houses.MUTE));
        MouthpieceRow house = Houses.busy();
        house.hang(1);
        CHECKS.same("who was a caller, where sound just comes", 2, house.call(CALLER, 2));
        CHECKS.same("strength 2, nothing is heard", 0, house.heard(0, 2));
    }

    /** Call 1, of a person of rank 5, is on over pipe 0. */
    private static void callByRank() {
        BUSY.refuse("a lower rank", Checks.UNSUPPORTED, house -> house.call(1, 0));
        Refusals like = new Refusals(CHECKS, "with rank 5", () -> withRankInRoom1(5));
        like.refuse("a like rank", Checks.UNSUPPORTED, house -> house.call(6, 0));
        MouthpieceRow house = withRankInRoom1(6);
        CHECKS.same("a rank that is higher by 1", 2, house.call(6, 0));
        CHECKS.same("one interrupted", 1, house.interrupted());
        CHECKS.same("it ended", false, house.isOn(1));
        MouthpieceRow free = Houses.busy();
        free.hang(1);
        CHECKS.same("nothing is on", 2, free.call(1, 0));
        CHECKS.same("none interrupted", 0, free.interrupted());
    }

    private static MouthpieceRow withRankInRoom1(int rank) {
        MouthpieceRow house = Houses.busy();
        house.addPerson(1, rank);
        return house;
    }

    private static MouthpieceRow typed(String word) {
        MouthpieceRow house = Houses.busy();
        house.wipe();
        Houses.type(house, word);
        return house;
    }

    private static void addOrder() {
        for (String word : new String[] {"", "hat", "on"}) {
            Refusals refusals = new Refusals(CHECKS, "typed '" + word + "'", () -> typed(word));
            refusals.refuse("an order", Checks.UNSUPPORTED, MouthpieceRow::addOrder);
        }
        for (String word : new String[] {"ha", "hats", "h", "no", "cat", "at"}) {
            CHECKS.same("order " + word, 2, typed(word).addOrder());
        }
    }

    private static void say() {
        BUSY.refuse("in a call that ended", Checks.UNSUPPORTED, house -> house.say(0));
        Refusals nothing = new Refusals(CHECKS, "typed nothing", () -> typed(""));
        nothing.refuse("in a call that is on", Checks.UNSUPPORTED, house -> house.say(1));
        nothing.refuse("in a call that ended", Checks.UNSUPPORTED, house -> house.say(0));
        nothing.refuse("in no call", Checks.INDEX, house -> house.say(2));
        CHECKS.same("one letter, in a call that is on", 2, typed("a").say(1));
    }

    private static void tellOn() {
        BUSY.refuse("in a call that ended", Checks.UNSUPPORTED, house -> house.tellOn(0, 0));
        BUSY.refuse("of which no letter is known", Checks.UNSUPPORTED, house -> house.tellOn(1, 0));
        BUSY.refuse("in a call that ended, no letter known", Checks.UNSUPPORTED, house -> house.tellOn(0, 1));
        BUSY.refuse("no message in a call that ended", Checks.INDEX, house -> house.tellOn(0, 2));
        MouthpieceRow house = Houses.busy();
        CHECKS.same("the own one in a call that is on, with the code", 1, house.tellOn(1, 1));
        Houses.type(house, "e");
        CHECKS.same("whoever types", 2, house.say(1));
    }

    /** Person 1 and 5 are in room 1, and 1 knows a letter of message 1. */
    private static void tell() {
        BUSY.refuse("in another room", Checks.UNSUPPORTED, house -> house.tell(1, CALLER, 1));
        BUSY.refuse("who knows no letter", Checks.UNSUPPORTED, house -> house.tell(5, 1, 1));
        BUSY.refuse("to a sleeper", Checks.UNSUPPORTED, house -> house.tell(2, SLEEPER, 1));
        BUSY.refuse("to oneself", Checks.ARGUMENT, house -> house.tell(1, 1, 1));
        BUSY.refuse("to oneself, asleep and knowing nothing", Checks.ARGUMENT,
                house -> house.tell(SLEEPER, SLEEPER, 1));
        BUSY.refuse("to oneself of no message", Checks.INDEX, house -> house.tell(1, 1, 2));
        BUSY.refuse("nobody to nobody", Checks.INDEX, house -> house.tell(6, 6, 1));
        Refusals first = new Refusals(CHECKS, "the first asleep", () -> asleep(1));
        first.refuse("tells", Checks.UNSUPPORTED, house -> house.tell(1, 5, 1));
        Refusals second = new Refusals(CHECKS, "the second asleep", () -> asleep(5));
        second.refuse("is told", Checks.UNSUPPORTED, house -> house.tell(1, 5, 1));
        CHECKS.same("both awake in one room", true, Houses.busy().tell(1, 5, 1));
    }

    private static MouthpieceRow asleep(int person) {
        MouthpieceRow house = Houses.busy();
        house.sleep(person, 1);
        return house;
    }

    private static void knows() {
        for (int place : new int[] {-1, 3, 4, Integer.MIN_VALUE, Integer.MAX_VALUE}) {
            BUSY.refuse("place " + place + " of cat", Checks.MISSING, house -> house.knows(0, 1, place));
            BUSY.refuse("place " + place + " of nobody", Checks.INDEX, house -> house.knows(6, 1, place));
        }
        BUSY.refuse("place 2 of at", Checks.MISSING, house -> house.knows(0, 0, 2));
        CHECKS.same("place 2 of cat", true, Houses.busy().knows(0, 1, 2));
        CHECKS.same("place 0, by who knows place 1", false, Houses.busy().knows(1, 1, 0));
        CHECKS.same("place 1", true, Houses.busy().knows(1, 1, 1));
        CHECKS.same("place 1 of at, not heard", false, Houses.busy().knows(0, 0, 1));
        MouthpieceRow house = typed("abcdefghijkl");
        house.say(1);
        CHECKS.same("place 11", true, house.knows(0, 2, 11));
        CHECKS.refuses("place 12", Checks.MISSING, () -> house.knows(0, 2, 12));
    }

    private static void letterAt() {
        for (int place : new int[] {-1, 3, 4, Integer.MIN_VALUE, Integer.MAX_VALUE}) {
            BUSY.refuse("letter " + place + " of cat", Checks.MISSING, house -> house.letterAt(0, 1, place));
            BUSY.refuse("letter " + place + " of no message", Checks.INDEX, house -> house.letterAt(0, 2, place));
        }
        BUSY.refuse("a letter that is not known", Checks.MISSING, house -> house.letterAt(1, 1, 0));
        BUSY.refuse("a letter that is not known", Checks.MISSING, house -> house.letterAt(1, 1, 2));
        BUSY.refuse("no letter is known", Checks.MISSING, house -> house.letterAt(2, 1, 1));
        CHECKS.same("the one that is known", 'a', Houses.busy().letterAt(1, 1, 1));
        MouthpieceRow house = typed("abcdefghijkl");
        house.say(1);
        CHECKS.same("letter 11", 'l', house.letterAt(0, 2, 11));
        CHECKS.refuses("letter 12", Checks.MISSING, () -> house.letterAt(0, 2, 12));
    }

    private static void isRight() {
        BUSY.refuse("no letter known", Checks.MISSING, house -> house.isRight(2, 1));
        BUSY.refuse("not even with one order of that length", Checks.MISSING, house -> house.isRight(0, 0));
        Refusals two = new Refusals(CHECKS, "two orders fit", () -> {
            MouthpieceRow house = typed("cat");
            house.addOrder();
            return house;
        });
        two.refuse("none is believed", Checks.MISSING, house -> house.isRight(1, 1));
        CHECKS.same("one order fits", false, Houses.busy().isRight(1, 1));
        CHECKS.same("the author", true, Houses.busy().isRight(0, 1));
    }

    private static void sourceChainAndToldAt() {
        BUSY.refuse("the author's source", Checks.MISSING, house -> house.source(5, 0));
        BUSY.refuse("the author's source", Checks.MISSING, house -> house.source(0, 1));
        for (int person : new int[] {0, 1, 2, SLEEPER, 4}) {
            BUSY.refuse("source of nothing", Checks.MISSING, house -> house.source(person, 0));
            BUSY.refuse("chain of nothing", Checks.MISSING, house -> house.chain(person, 0));
            BUSY.refuse("minute of nothing", Checks.MISSING, house -> house.toldAt(person, 0));
        }
        MouthpieceRow house = Houses.busy();
        CHECKS.same("source of one letter", 0, house.source(1, 1));
        CHECKS.same("chain of one letter", 1, house.chain(1, 1));
        CHECKS.same("minute of one letter", 3, house.toldAt(1, 1));
        CHECKS.same("the author's chain", 0, house.chain(0, 1));
        CHECKS.same("the author's minute", 3, house.toldAt(0, 1));
        CHECKS.same("the first minute", 0, house.toldAt(5, 0));
    }

    private static void doIt() {
        BUSY.refuse("done", Checks.UNSUPPORTED, house -> house.doIt(5, 0));
        BUSY.refuse("no letter known", Checks.UNSUPPORTED, house -> house.doIt(2, 1));
        Refusals asleep = new Refusals(CHECKS, "the believer asleep", () -> asleep(1));
        asleep.refuse("does it", Checks.UNSUPPORTED, house -> house.doIt(1, 1));
        Refusals two = new Refusals(CHECKS, "two orders fit", () -> {
            MouthpieceRow house = typed("cat");
            house.addOrder();
            return house;
        });
        two.refuse("no word is believed", Checks.UNSUPPORTED, house -> house.doIt(1, 1));
        Refusals wrong = new Refusals(CHECKS, "done wrongly", () -> {
            MouthpieceRow house = Houses.busy();
            house.doIt(1, 1);
            return house;
        });
        wrong.refuse("again", Checks.UNSUPPORTED, house -> house.doIt(1, 1));
        wrong.refuse("again by the author", Checks.UNSUPPORTED, house -> house.doIt(0, 1));
        BUSY.refuse("a sleeper, no message", Checks.INDEX, house -> house.doIt(SLEEPER, 2));
        CHECKS.same("a belief, awake", false, Houses.busy().doIt(1, 1));
    }

    private static void alarm() {
        BUSY.refuse("a sleeper", Checks.UNSUPPORTED, house -> house.alarm(SLEEPER));
        MouthpieceRow house = Houses.busy();
        CHECKS.same("who began it before", 3, house.alarm(1));
        CHECKS.same("a caller", 3, house.alarm(CALLER));
        CHECKS.same("in place of the other one", false, house.knowsAlarm(1));
    }

    private static void passOn() {
        BUSY.refuse("who does not know", Checks.UNSUPPORTED, house -> house.passOn(CALLER));
        BUSY.refuse("a sleeper who does not know", Checks.UNSUPPORTED, house -> house.passOn(SLEEPER));
        Refusals asleep = new Refusals(CHECKS, "who knows asleep", () -> asleep(1));
        asleep.refuse("passes it on", Checks.UNSUPPORTED, house -> house.passOn(1));
        Refusals none = new Refusals(CHECKS, "no alarm", () -> Houses.peopled(2));
        none.refuse("passes it on", Checks.UNSUPPORTED, house -> house.passOn(0));
        Refusals other = new Refusals(CHECKS, "another alarm", () -> {
            MouthpieceRow house = Houses.busy();
            house.alarm(2);
            return house;
        });
        other.refuse("who began the first one", Checks.UNSUPPORTED, house -> house.passOn(1));
        CHECKS.same("who knows, awake", 2, Houses.busy().passOn(1));
    }

    private static void setLine() {
        for (int line = -1; line <= 3; line++) {
            int number = line;
            BUSY.refuse("no mouthpiece, line " + line, Checks.UNSUPPORTED,
                    house -> house.setLine(Houses.MUTE, number));
        }
        BUSY.refuse("no mouthpiece, line 4", Checks.ARGUMENT, house -> house.setLine(Houses.MUTE, 4));
        BUSY.refuse("no mouthpiece, line -2", Checks.ARGUMENT, house -> house.setLine(Houses.MUTE, -2));
        MouthpieceRow house = Houses.busy();
        CHECKS.same("from line 1 to none", 1, house.setLine(0, -1));
        CHECKS.same("from none to line 3", -1, house.setLine(0, 3));
    }

    /** Room 0 has a telephone on line 1, room 1 on line 0; the others have none. */
    private static void phoneSay() {
        BUSY.refuse("to a room without one", Checks.UNSUPPORTED, house -> house.phoneSay(0, 2));
        BUSY.refuse("to a room without mouthpiece", Checks.UNSUPPORTED, house -> house.phoneSay(0, Houses.MUTE));
        BUSY.refuse("from a room without one", Checks.UNSUPPORTED, house -> house.phoneSay(2, 0));
        BUSY.refuse("in the own room", Checks.UNSUPPORTED, house -> house.phoneSay(0, 0));
        BUSY.refuse("in a room without one", Checks.UNSUPPORTED, house -> house.phoneSay(2, 2));
        BUSY.refuse("a sleeper to no room", Checks.INDEX, house -> house.phoneSay(SLEEPER, 5));
        Refusals asleep = new Refusals(CHECKS, "asleep", () -> asleep(1));
        asleep.refuse("telephones", Checks.UNSUPPORTED, house -> house.phoneSay(1, 0));
        Refusals nothing = new Refusals(CHECKS, "typed nothing", () -> typed(""));
        nothing.refuse("is telephoned", Checks.UNSUPPORTED, house -> house.phoneSay(1, 0));
        CHECKS.same("awake, one letter", 2, typed("a").phoneSay(1, 0));
        CHECKS.same("a caller", 2, typed("a").phoneSay(CALLER, 1));
    }

    private static void phoneOn() {
        BUSY.refuse("to a room without one", Checks.UNSUPPORTED, house -> house.phoneOn(0, 2, 1));
        BUSY.refuse("in the own room", Checks.UNSUPPORTED, house -> house.phoneOn(0, 0, 1));
        BUSY.refuse("no letter known", Checks.UNSUPPORTED, house -> house.phoneOn(0, 1, 0));
        BUSY.refuse("no letter known by the other", Checks.UNSUPPORTED, house -> house.phoneOn(5, 0, 1));
        BUSY.refuse("no message to the own room", Checks.INDEX, house -> house.phoneOn(0, 0, 2));
        Refusals here = new Refusals(CHECKS, "no telephone here", () -> {
            MouthpieceRow house = Houses.busy();
            house.setLine(0, -1);
            house.setLine(2, 1);
            return house;
        });
        here.refuse("told on", Checks.UNSUPPORTED, house -> house.phoneOn(0, 1, 1));
        Refusals asleep = new Refusals(CHECKS, "asleep", () -> asleep(1));
        asleep.refuse("tells on", Checks.UNSUPPORTED, house -> house.phoneOn(1, 0, 1));
        CHECKS.same("awake, one letter known, to the author", 0, Houses.busy().phoneOn(1, 0, 1));
        CHECKS.same("the author", 2, Houses.busy().phoneOn(0, 1, 1));
    }

    private static void sums() {
        Refusals empty = new Refusals(CHECKS, "empty", MouthpieceRow::new);
        empty.refuse("share of none", Checks.MISSING, MouthpieceRow::rightShare);
        empty.refuse("mean of none", Checks.MISSING, MouthpieceRow::meanHeard);
        Refusals one = new Refusals(CHECKS, "one mouthpiece", () -> {
            MouthpieceRow house = Houses.row(1);
            house.addRoom(0, 0, false);
            house.addPipe(0, 1, 1, 0, 0);
            return house;
        });
        one.refuse("mean of none", Checks.MISSING, MouthpieceRow::meanHeard);
        CHECKS.same("share of two, one done", 0.5f, Houses.busy().rightShare());
    }
}
