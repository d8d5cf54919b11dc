/** Promises 12 to 20: people, whistles and calls. */
public final class PeopleAndCallsTest {
    private static final Checks CHECKS = new Checks("PeopleAndCallsTest");

    public static void main(String[] args) {
        addPerson();
        sleep();
        move();
        whistle();
        whistleWhereVoiceDoesNotCome();
        call();
        callNeedsSound();
        callInterrupts();
        callKeepsItsWay();
        callsAtOnce();
        callsInAll();
        hangAndIsOn();
        CHECKS.end();
    }

    private static void addPerson() {
        MouthpieceRow house = Houses.row(2);
        int mute = house.addRoom(0, 0, false);
        CHECKS.refuses("room 3", Checks.INDEX, () -> house.addPerson(3, 10));
        CHECKS.refuses("room -1", Checks.INDEX, () -> house.addPerson(-1, 0));
        CHECKS.refuses("rank 10", Checks.ARGUMENT, () -> house.addPerson(mute, 10));
        CHECKS.refuses("rank -1", Checks.ARGUMENT, () -> house.addPerson(0, -1));
        CHECKS.refuses("no mouthpiece", Checks.UNSUPPORTED, () -> house.addPerson(mute, 0));
        for (int i = 0; i < 10; i++) {
            CHECKS.same("person", i, house.addPerson(i % 2, i));
        }
        CHECKS.same("awake", 0, house.depth(9));
        CHECKS.refuses("an 11th", Checks.STATE, () -> house.addPerson(0, 0));
        CHECKS.refuses("an 11th, no mouthpiece", Checks.UNSUPPORTED, () -> house.addPerson(mute, 0));
        CHECKS.same("room of person 9", 1, house.move(9, 1));
    }

    private static void sleep() {
        MouthpieceRow house = Houses.peopled(2);
        CHECKS.same("awake before", 0, house.sleep(0, 9));
        CHECKS.same("depth", 9, house.depth(0));
        CHECKS.same("depth before", 9, house.sleep(0, 1));
        CHECKS.same("depth before", 1, house.sleep(0, 0));
        CHECKS.same("awake", 0, house.depth(0));
        house.call(0, 1);
        CHECKS.refuses("person 2", Checks.INDEX, () -> house.sleep(2, 10));
        CHECKS.refuses("person -1", Checks.INDEX, () -> house.sleep(-1, 1));
        CHECKS.refuses("depth 10", Checks.ARGUMENT, () -> house.sleep(0, 10));
        CHECKS.refuses("depth -1", Checks.ARGUMENT, () -> house.sleep(0, -1));
        CHECKS.refuses("a caller", Checks.UNSUPPORTED, () -> house.sleep(0, 1));
        CHECKS.refuses("a caller stays awake", Checks.UNSUPPORTED, () -> house.sleep(0, 0));
        CHECKS.same("who is called may sleep", 0, house.sleep(1, 4));
        house.hang(0);
        CHECKS.same("who has called may sleep", 0, house.sleep(0, 4));
        CHECKS.refuses("depth of 2", Checks.INDEX, () -> house.depth(2));
        CHECKS.refuses("depth of -1", Checks.INDEX, () -> house.depth(-1));
    }

    private static void move() {
        MouthpieceRow house = Houses.peopled(2);
        int mute = house.addRoom(0, 0, false);
        CHECKS.same("room before", 0, house.move(0, 1));
        CHECKS.same("room before", 1, house.move(0, 1));
        CHECKS.same("room before", 1, house.move(0, 0));
        CHECKS.refuses("no mouthpiece", Checks.UNSUPPORTED, () -> house.move(0, mute));
        CHECKS.refuses("person 2", Checks.INDEX, () -> house.move(2, 0));
        CHECKS.refuses("person -1", Checks.INDEX, () -> house.move(-1, 0));
        CHECKS.refuses("room 3", Checks.INDEX, () -> house.move(0, 3));
        CHECKS.refuses("room -1", Checks.INDEX, () -> house.move(0, -1));
        house.sleep(1, 1);
        CHECKS.refuses("asleep", Checks.UNSUPPORTED, () -> house.move(1, 0));
        house.call(0, 1);
        CHECKS.refuses("a caller", Checks.UNSUPPORTED, () -> house.move(0, 1));
        house.hang(0);
        CHECKS.same("a caller no more", 0, house.move(0, 1));
    }

    private static void whistle() {
        MouthpieceRow house = Houses.peopled(2);
        house.addPerson(1, 0);
        house.addPerson(1, 0);
        int mute = house.addRoom(0, 0, false);
        house.setNoise(1, 9);
        house.clog(0, 20);
        house.sleep(1, 6);
        house.sleep(2, 7);
        CHECKS.same("of 30 wakes 6, not 7, and who is awake counts nothing", 1, house.whistle(0, 1));
        CHECKS.same("6 woke", 0, house.depth(1));
        CHECKS.same("7 sleeps on", 7, house.depth(2));
        house.clog(0, 16);
        CHECKS.same("34 is too little for 7", 0, house.whistle(0, 1));
        house.clog(0, 15);
        CHECKS.same("35 is enough", 1, house.whistle(0, 1));
        CHECKS.same("nobody in a room without mouthpiece", 0, house.whistle(0, mute));
        CHECKS.refuses("own room", Checks.UNSUPPORTED, () -> house.whistle(0, 0));
        CHECKS.refuses("person 4", Checks.INDEX, () -> house.whistle(4, 0));
        CHECKS.refuses("person -1", Checks.INDEX, () -> house.whistle(-1, 0));
        CHECKS.refuses("room 3", Checks.INDEX, () -> house.whistle(0, 3));
        CHECKS.refuses("room -1", Checks.INDEX, () -> house.whistle(0, -1));
        house.sleep(0, 1);
        CHECKS.refuses("asleep", Checks.UNSUPPORTED, () -> house.whistle(0, 1));
        CHECKS.same("who sleeps elsewhere is not woken", 0, house.whistle(1, mute));
        CHECKS.same("that one sleeps on", 1, house.depth(0));
        CHECKS.same("the first person is woken like all", 1, house.whistle(1, 0));
    }

    private static void whistleWhereVoiceDoesNotCome() {
        MouthpieceRow house = Houses.row(2);
        house.addPipe(0, 1, 40, 9, 9);
        house.setValve(0, false);
        house.clog(1, 17);
        house.addPerson(0, 1);
        house.addPerson(1, 1);
        house.sleep(1, 1);
        CHECKS.same("no voice", 0, house.strength(0, 1));
        CHECKS.same("60 less 54 wakes depth 1", 1, house.whistle(0, 1));
        house.sleep(1, 2);
        CHECKS.same("not depth 2", 0, house.whistle(0, 1));
        house.setValve(1, false);
        house.sleep(1, 1);
        CHECKS.same("nothing by shut pipes", 0, house.whistle(0, 1));
    }

    private static void call() {
        MouthpieceRow house = Houses.peopled(3);
        int mute = house.addRoom(0, 0, false);
        house.addPipe(2, mute, 4, 0, 0);
        CHECKS.refuses("person 3", Checks.INDEX, () -> house.call(3, 0));
        CHECKS.refuses("person -1", Checks.INDEX, () -> house.call(-1, 0));
        CHECKS.refuses("room 4", Checks.INDEX, () -> house.call(0, 4));
        CHECKS.refuses("room -1", Checks.INDEX, () -> house.call(0, -1));
        CHECKS.refuses("own room", Checks.UNSUPPORTED, () -> house.call(0, 0));
        CHECKS.refuses("no mouthpiece", Checks.UNSUPPORTED, () -> house.call(2, mute));
        house.sleep(0, 1);
        CHECKS.refuses("asleep", Checks.UNSUPPORTED, () -> house.call(0, 1));
        house.sleep(0, 0);
        CHECKS.same("call 0", 0, house.call(0, 1));
        CHECKS.refuses("a second one", Checks.UNSUPPORTED, () -> house.call(0, 2));
        CHECKS.same("who is called can call", 1, house.call(1, 2));
        CHECKS.same("both on", true, house.isOn(0) && house.isOn(1));
        house.hang(0);
        CHECKS.same("numbers are not given again", 2, house.call(0, 1));
        CHECKS.same("bill", 6, house.bill(0));
        CHECKS.same("bill", 3, house.bill(1));
        CHECKS.same("wrong calls cost nothing", 0, house.bill(2));
    }

    private static void callNeedsSound() {
        MouthpieceRow house = Houses.peopled(2);
        house.clog(0, 39);
        CHECKS.refuses("sound does not come", Checks.UNSUPPORTED, () -> house.call(0, 1));
        house.clog(0, 38);
        house.setNoise(1, 9);
        CHECKS.same("nothing is heard, but sound comes", 0, house.call(0, 1));
        house.hang(0);
        house.setValve(0, false);
        CHECKS.refuses("shut", Checks.UNSUPPORTED, () -> house.call(0, 1));
    }

    private static void callInterrupts() {
        MouthpieceRow house = Houses.row(4);
        house.addPerson(0, 3);
        house.addPerson(3, 3);
        house.addPerson(2, 5);
        house.addPerson(1, 4);
        house.call(0, 2);
        CHECKS.refuses("like rank", Checks.UNSUPPORTED, () -> house.call(1, 1));
        CHECKS.same("still on", true, house.isOn(0));
        CHECKS.same("beside the other", 1, house.call(1, 2));
        CHECKS.refuses("one of two is not lower", Checks.UNSUPPORTED, () -> {
            house.call(2, 1);
            house.move(3, 0);
            return house.call(3, 2);
        });
        CHECKS.same("one interrupted by rank 5", 1, house.interrupted());
        CHECKS.same("the other one on", true, house.isOn(1));
        CHECKS.same("over both", 3, callOverBoth(house));
        CHECKS.same("three interrupted", 3, house.interrupted());
        CHECKS.same("both ended", false, house.isOn(1) || house.isOn(2));
        house.setValve(0, false);
        CHECKS.same("ended by a valve", false, house.isOn(3));
        house.setValve(0, true);
        CHECKS.same("that is no interruption", 3, house.interrupted());
    }

    private static int callOverBoth(MouthpieceRow house) {
        int chief = house.addPerson(0, 9);
        return house.call(chief, 3);
    }

    private static void callKeepsItsWay() {
        MouthpieceRow house = Houses.peopled(3);
        house.addPipe(0, 2, 4, 0, 0);
        house.call(0, 2);
        house.clog(2, 40);
        CHECKS.same("the way of now", 2, house.wayLength(0, 2));
        CHECKS.same("pipes of another way are free", 1, house.call(1, 2));
        house.setValve(0, false);
        CHECKS.same("its own pipe is open", true, house.isOn(0));
        house.setValve(2, false);
        CHECKS.same("its own pipe is shut", false, house.isOn(0));
        CHECKS.same("the other one is on", true, house.isOn(1));
        house.setValve(2, true);
        CHECKS.same("it does not begin again", false, house.isOn(0));
    }

    private static void callsAtOnce() {
        MouthpieceRow house = Houses.peopled(7);
        for (int i = 0; i < 4; i++) {
            house.call(i, i + 1);
        }
        CHECKS.refuses("a fifth at once", Checks.STATE, () -> house.call(4, 5));
        CHECKS.refuses("a fifth at once that cannot interrupt", Checks.UNSUPPORTED, () -> house.call(4, 3));
        house.hang(3);
        int chief = house.addPerson(6, 9);
        house.call(4, 5);
        CHECKS.same("four others, one of them ended by it", 5, house.call(chief, 4));
        CHECKS.same("one interrupted", 1, house.interrupted());
        CHECKS.refuses("a fifth again", Checks.STATE, () -> house.call(3, 4));
        CHECKS.same("a refused one costs nothing", 3, house.bill(3));
    }

    private static void callsInAll() {
        MouthpieceRow house = Houses.peopled(3);
        for (int i = 0; i < 60; i++) {
            CHECKS.same("call", i, house.call(0, 1));
            house.hang(i);
        }
        CHECKS.refuses("a 61st", Checks.STATE, () -> house.call(0, 1));
        CHECKS.refuses("a 61st to the own room", Checks.UNSUPPORTED, () -> house.call(0, 0));
        CHECKS.same("the bill of 60", 180, house.bill(0));
    }

    private static void hangAndIsOn() {
        MouthpieceRow house = Houses.peopled(2);
        CHECKS.refuses("no call", Checks.INDEX, () -> house.hang(0));
        house.call(0, 1);
        CHECKS.same("on", true, house.isOn(0));
        CHECKS.same("it was on", true, house.hang(0));
        CHECKS.same("it was not", false, house.hang(0));
        CHECKS.same("ended", false, house.isOn(0));
        CHECKS.same("hanging is no interruption", 0, house.interrupted());
        CHECKS.refuses("hang 1", Checks.INDEX, () -> house.hang(1));
        CHECKS.refuses("hang -1", Checks.INDEX, () -> house.hang(-1));
        CHECKS.refuses("is 1 on", Checks.INDEX, () -> house.isOn(1));
        CHECKS.refuses("is -1 on", Checks.INDEX, () -> house.isOn(-1));
    }
}
