/** Promises 36 to 41: deeds, fates and alarms. */
public final class DeedsAndAlarmsTest {
    private static final Checks CHECKS = new Checks("DeedsAndAlarmsTest");

    public static void main(String[] args) {
        doIt();
        fate();
        alarm();
        passOn();
        passOnWakes();
        knowsAlarm();
        unanswered();
        CHECKS.end();
    }

    private static void doIt() {
        MouthpieceRow house = Houses.halfHeard();
        CHECKS.refuses("person 3", Checks.INDEX, () -> house.doIt(3, 0));
        CHECKS.refuses("person -1", Checks.INDEX, () -> house.doIt(-1, 0));
        CHECKS.refuses("message 1", Checks.INDEX, () -> house.doIt(0, 1));
        CHECKS.refuses("message -1", Checks.INDEX, () -> house.doIt(0, -1));
        CHECKS.refuses("no belief", Checks.UNSUPPORTED, () -> house.doIt(1, 0));
        Houses.order(house, "ham");
        house.sleep(1, 1);
        CHECKS.refuses("asleep", Checks.UNSUPPORTED, () -> house.doIt(1, 0));
        house.sleep(1, 0);
        CHECKS.same("nothing done by that", 'k', house.fate(0));
        CHECKS.same("done wrongly", false, house.doIt(1, 0));
        CHECKS.refuses("done", Checks.UNSUPPORTED, () -> house.doIt(0, 0));
        CHECKS.same("wrong for good", 'w', house.fate(0));
        Houses.say(house, 0, "a");
        CHECKS.same("another message", true, house.doIt(1, 1));
        Houses.say(house, 0, "b");
        CHECKS.same("the author can do it", true, house.doIt(0, 2));
        CHECKS.refuses("done", Checks.UNSUPPORTED, () -> house.doIt(0, 2));
    }

    private static void fate() {
        MouthpieceRow house = Houses.halfHeard();
        CHECKS.refuses("message 1", Checks.INDEX, () -> house.fate(1));
        CHECKS.refuses("message -1", Checks.INDEX, () -> house.fate(-1));
        CHECKS.same("heard", 'h', house.fate(0));
        Houses.order(house, "ham");
        CHECKS.same("believed", 'k', house.fate(0));
        Houses.order(house, "cat");
        CHECKS.same("believed no more", 'h', house.fate(0));
        house.clog(0, 40);
        Houses.say(house, 0, "cat");
        CHECKS.same("known to the author alone", 'n', house.fate(1));
        house.move(2, 0);
        house.tell(0, 2, 1);
        CHECKS.same("believed by a later one", 'k', house.fate(1));
        house.doIt(0, 1);
        CHECKS.same("done rightly", 'd', house.fate(1));
        house.clog(0, 34);
        house.tellOn(0, 0);
        house.tell(0, 2, 0);
        CHECKS.same("heard first by one who believes nothing", 'k', house.fate(0));
        house.hang(0);
        house.clog(0, 0);
        int back = house.call(1, 0);
        house.sleep(2, 1);
        int third = Houses.say(house, back, "tea");
        CHECKS.same("believed by the first person alone", 'k', house.fate(third));
    }

    private static void alarm() {
        MouthpieceRow house = threeFloors();
        CHECKS.refuses("person 3", Checks.INDEX, () -> house.alarm(3));
        CHECKS.refuses("person -1", Checks.INDEX, () -> house.alarm(-1));
        house.sleep(0, 1);
        CHECKS.refuses("asleep", Checks.UNSUPPORTED, () -> house.alarm(0));
        CHECKS.same("no alarm by that", 0, house.unanswered());
        CHECKS.same("two floors are left", 2, house.alarm(1));
        house.passOn(1);
        CHECKS.same("another alarm", 2, house.alarm(2));
        CHECKS.same("who knew of the first one", false, house.knowsAlarm(1));
        CHECKS.same("who began it", true, house.knowsAlarm(2));
        CHECKS.same("passed on to the first person, too", 2, house.passOn(2));
        CHECKS.same("the first person knows", true, house.knowsAlarm(0));
        CHECKS.same("three floors have answered", 0, house.unanswered());
    }

    /** Rooms 0, 1 and 2 on the floors 0, 2 and 5 in a row, with a person in each. */
    private static MouthpieceRow threeFloors() {
        MouthpieceRow house = new MouthpieceRow();
        house.addRoom(0, 0, true);
        house.addRoom(2, 0, true);
        house.addRoom(5, 0, true);
        house.addPipe(0, 1, 4, 0, 0);
        house.addPipe(1, 2, 4, 0, 0);
        for (int i = 0; i < 3; i++) {
            house.addPerson(i, 0);
        }
        return house;
    }

    private static void passOn() {
        MouthpieceRow house = threeFloors();
        CHECKS.refuses("person 3", Checks.INDEX, () -> house.passOn(3));
        CHECKS.refuses("person -1", Checks.INDEX, () -> house.passOn(-1));
        CHECKS.refuses("no alarm", Checks.UNSUPPORTED, () -> house.passOn(0));
        house.addPerson(0, 0);
        house.setNoise(2, 9);
        house.clog(1, 29);
        house.alarm(0);
        CHECKS.refuses("not known", Checks.UNSUPPORTED, () -> house.passOn(1));
        CHECKS.same("own room and the next", 2, house.passOn(0));
        CHECKS.same("nothing heard in the last", false, house.knowsAlarm(2));
        house.clog(1, 28);
        CHECKS.same("heard, by 1", 1, house.passOn(0));
        CHECKS.same("nobody more", 0, house.passOn(0));
        CHECKS.same("over, but known", true, house.knowsAlarm(2));
        house.sleep(0, 1);
        CHECKS.refuses("asleep", Checks.UNSUPPORTED, () -> house.passOn(0));
    }

    private static void passOnWakes() {
        MouthpieceRow house = threeFloors();
        house.setNoise(1, 5);
        house.sleep(1, 7);
        house.setNoise(2, 8);
        house.sleep(2, 6);
        int near = house.addPerson(0, 0);
        house.sleep(near, 8);
        house.alarm(0);
        CHECKS.same("34 does not wake 7, 30 wakes 6, 40 wakes 8", 2, house.passOn(0));
        CHECKS.same("depth 7", 7, house.depth(1));
        CHECKS.same("depth 6", 0, house.depth(2));
        CHECKS.same("depth 8", 0, house.depth(near));
        CHECKS.same("who sleeps does not know", false, house.knowsAlarm(1));
        house.sleep(2, 1);
        CHECKS.same("who knows and wakes is not new", 0, house.passOn(0));
        CHECKS.same("but wakes", 0, house.depth(2));
        house.setNoise(1, 4);
        CHECKS.same("35 wakes 7", 1, house.passOn(0));
        CHECKS.same("depth 7", 0, house.depth(1));
    }

    private static void knowsAlarm() {
        MouthpieceRow house = threeFloors();
        CHECKS.same("no alarm", false, house.knowsAlarm(0));
        house.alarm(0);
        CHECKS.same("alarm", true, house.knowsAlarm(0));
        CHECKS.same("another one", false, house.knowsAlarm(1));
        house.sleep(0, 9);
        CHECKS.same("known in sleep", true, house.knowsAlarm(0));
        int late = house.addPerson(0, 0);
        CHECKS.same("who comes later", false, house.knowsAlarm(late));
        CHECKS.refuses("person 4", Checks.INDEX, () -> house.knowsAlarm(4));
        CHECKS.refuses("person -1", Checks.INDEX, () -> house.knowsAlarm(-1));
    }

    private static void unanswered() {
        MouthpieceRow house = threeFloors();
        house.addRoom(4, 0, true);
        CHECKS.same("no alarm", 0, house.unanswered());
        house.alarm(0);
        CHECKS.same("two floors, none for an empty one", 2, house.unanswered());
        house.addPerson(1, 0);
        CHECKS.same("two people on one floor", 2, house.unanswered());
        house.move(2, 1);
        CHECKS.same("a floor is left by all", 1, house.unanswered());
        house.move(0, 1);
        CHECKS.same("it goes along with who knows", 0, house.unanswered());
        house.move(2, 3);
        CHECKS.same("somebody goes to a floor that has not answered", 1, house.unanswered());
    }
}
