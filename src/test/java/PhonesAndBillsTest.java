/** Promises 42 to 46: telephones, minutes and bills. */
public final class PhonesAndBillsTest {
    private static final Checks CHECKS = new Checks("PhonesAndBillsTest");

    public static void main(String[] args) {
        setLine();
        phoneSay();
        phoneSayNeeds();
        phoneOn();
        phoneOnNeeds();
        pass();
        bill();
        CHECKS.end();
    }

    private static void setLine() {
        MouthpieceRow house = Houses.row(1);
        house.addRoom(0, 0, false);
        CHECKS.same("none", -1, house.setLine(0, 3));
        CHECKS.same("line 3", 3, house.setLine(0, 0));
        CHECKS.same("line 0", 0, house.setLine(0, -1));
        CHECKS.same("none", -1, house.setLine(0, -1));
        CHECKS.refuses("room 2", Checks.INDEX, () -> house.setLine(2, 4));
        CHECKS.refuses("room -1", Checks.INDEX, () -> house.setLine(-1, 0));
        CHECKS.refuses("line 4", Checks.ARGUMENT, () -> house.setLine(1, 4));
        CHECKS.refuses("line -2", Checks.ARGUMENT, () -> house.setLine(0, -2));
        CHECKS.refuses("no mouthpiece", Checks.UNSUPPORTED, () -> house.setLine(1, 0));
        CHECKS.refuses("no mouthpiece, none", Checks.UNSUPPORTED, () -> house.setLine(1, -1));
        CHECKS.same("it costs nothing", 0, house.bill(0));
    }

    /** Rooms that no pipe joins, on the lines 0, 1, 1, 2, 0 and none, with a person in each. */
    private static MouthpieceRow lines() {
        MouthpieceRow house = Houses.apart(6);
        int[] lines = {0, 1, 1, 2, 0};
        for (int i = 0; i < lines.length; i++) {
            house.setLine(i, lines[i]);
        }
        return house;
    }

    private static void phoneSay() {
        MouthpieceRow house = lines();
        int near = house.addPerson(0, 0);
        int sleeper = house.addPerson(1, 0);
        house.sleep(sleeper, 1);
        house.setNoise(2, 9);
        Houses.type(house, "cat");
        CHECKS.same("message 0", 0, house.phoneSay(0, 1));
        CHECKS.same("nothing is typed then", 0, house.wipe());
        String[] due = {"cat", "cat", "cat", "...", "...", "...", "...", "..."};
        for (int i = 0; i < due.length; i++) {
            CHECKS.same("known to " + i, due[i], Houses.known(house, i, 0, 3));
        }
        CHECKS.same("the author", 0, house.chain(0, 0));
        CHECKS.same("the source", 0, house.source(2, 0));
        CHECKS.same("bill of where it is said", 1, house.bill(0));
        CHECKS.same("bill of where it is heard", 0, house.bill(1));
        Houses.type(house, "dog");
        CHECKS.same("message 1", 1, house.phoneSay(0, 4));
        CHECKS.same("on the own line, not in the own room", "...", Houses.known(house, near, 1, 3));
        CHECKS.same("the other room on the own line", "dog", Houses.known(house, 4, 1, 3));
        CHECKS.same("not on line 1", "...", Houses.known(house, 1, 1, 3));
        Houses.type(house, "e");
        CHECKS.same("message 2", 2, house.phoneSay(4, 0));
        CHECKS.same("the first room", "e", Houses.known(house, 0, 2, 1));
        house.setCode(true);
        Houses.type(house, "e");
        house.phoneSay(4, 1);
        CHECKS.same("nothing at all off the line", ".", Houses.known(house, 0, 3, 1));
    }

    private static void phoneSayNeeds() {
        MouthpieceRow house = lines();
        CHECKS.refuses("nothing typed", Checks.UNSUPPORTED, () -> house.phoneSay(0, 1));
        house.type('a');
        CHECKS.refuses("person 6", Checks.INDEX, () -> house.phoneSay(6, 1));
        CHECKS.refuses("person -1", Checks.INDEX, () -> house.phoneSay(-1, 1));
        CHECKS.refuses("room 6", Checks.INDEX, () -> house.phoneSay(0, 6));
        CHECKS.refuses("room -1", Checks.INDEX, () -> house.phoneSay(0, -1));
        CHECKS.refuses("no telephone there", Checks.UNSUPPORTED, () -> house.phoneSay(0, 5));
        CHECKS.refuses("no telephone here", Checks.UNSUPPORTED, () -> house.phoneSay(5, 0));
        CHECKS.refuses("own room", Checks.UNSUPPORTED, () -> house.phoneSay(0, 0));
        house.sleep(1, 1);
        CHECKS.refuses("asleep", Checks.UNSUPPORTED, () -> house.phoneSay(1, 0));
        CHECKS.same("it stays typed", 1, house.wipe());
        for (int i = 0; i < 40; i++) {
            house.type('a');
            CHECKS.same("message", i, house.phoneSay(0, 3));
        }
        CHECKS.refuses("a 41st of nothing", Checks.UNSUPPORTED, () -> house.phoneSay(0, 3));
        house.type('a');
        CHECKS.refuses("a 41st", Checks.STATE, () -> house.phoneSay(0, 3));
        CHECKS.same("40 are paid", 40, house.bill(0));
    }

    private static void phoneOn() {
        MouthpieceRow house = lines();
        house.sleep(2, 1);
        Houses.type(house, "cat");
        house.phoneSay(0, 1);
        house.sleep(2, 0);
        int late = house.addPerson(1, 0);
        CHECKS.same("the author tells two more", 2, house.phoneOn(0, 2, 0));
        CHECKS.same("who was asleep", "cat", Houses.known(house, 2, 0, 3));
        CHECKS.same("who came later", "cat", Houses.known(house, late, 0, 3));
        CHECKS.same("nobody more", 0, house.phoneOn(0, 2, 0));
        CHECKS.same("each time is paid", 3, house.bill(0));
        CHECKS.same("another one tells it on", 1, house.phoneOn(1, 3, 0));
        CHECKS.same("the source", 1, house.source(3, 0));
        CHECKS.same("bill", 1, house.bill(1));
        beliefByPhone();
    }

    /** Person 1 hears the a of 'cat' by a pipe, guesses 'hat', and telephones that. */
    private static void beliefByPhone() {
        MouthpieceRow house = Houses.peopled(2);
        house.addRoom(0, 0, true);
        house.addPerson(2, 0);
        house.setLine(1, 0);
        house.setLine(2, 0);
        house.call(0, 1);
        house.clog(0, 34);
        Houses.say(house, 0, "cat");
        CHECKS.same("the a", 1, house.phoneOn(1, 2, 0));
        CHECKS.same("with silent places", ".a.", Houses.known(house, 2, 0, 3));
        Houses.order(house, "hat");
        CHECKS.same("the belief", 1, house.phoneOn(1, 2, 0));
        CHECKS.same("as it was told", "hat", Houses.known(house, 2, 0, 3));
    }

    private static void phoneOnNeeds() {
        MouthpieceRow house = lines();
        CHECKS.refuses("no message", Checks.INDEX, () -> house.phoneOn(0, 1, 0));
        house.type('a');
        house.phoneSay(0, 1);
        house.move(1, 5);
        CHECKS.refuses("person 6", Checks.INDEX, () -> house.phoneOn(6, 1, 0));
        CHECKS.refuses("person -1", Checks.INDEX, () -> house.phoneOn(-1, 1, 0));
        CHECKS.refuses("room 6", Checks.INDEX, () -> house.phoneOn(0, 6, 0));
        CHECKS.refuses("room -1", Checks.INDEX, () -> house.phoneOn(0, -1, 0));
        CHECKS.refuses("message 1", Checks.INDEX, () -> house.phoneOn(0, 5, 1));
        CHECKS.refuses("message -1", Checks.INDEX, () -> house.phoneOn(0, 1, -1));
        CHECKS.refuses("no telephone there", Checks.UNSUPPORTED, () -> house.phoneOn(0, 5, 0));
        CHECKS.refuses("no telephone here", Checks.UNSUPPORTED, () -> house.phoneOn(1, 0, 0));
        CHECKS.refuses("own room", Checks.UNSUPPORTED, () -> house.phoneOn(0, 0, 0));
        CHECKS.refuses("no letter known", Checks.UNSUPPORTED, () -> house.phoneOn(3, 1, 0));
        house.sleep(0, 1);
        CHECKS.refuses("asleep", Checks.UNSUPPORTED, () -> house.phoneOn(0, 1, 0));
        CHECKS.same("refused ones are not paid", 1, house.bill(0));
    }

    private static void pass() {
        MouthpieceRow house = new MouthpieceRow();
        CHECKS.refuses("0", Checks.ARGUMENT, () -> house.pass(0));
        CHECKS.refuses("-1", Checks.ARGUMENT, () -> house.pass(-1));
        CHECKS.refuses("601", Checks.ARGUMENT, () -> house.pass(601));
        CHECKS.refuses("the most", Checks.ARGUMENT, () -> house.pass(Integer.MAX_VALUE));
        CHECKS.same("one", 1, house.pass(1));
        for (int i = 1; i <= 16; i++) {
            CHECKS.same("600 more", 600 * i + 1, house.pass(600));
        }
        CHECKS.refuses("10000", Checks.STATE, () -> house.pass(399));
        CHECKS.same("9999", 9999, house.pass(398));
        CHECKS.refuses("beyond 9999", Checks.STATE, () -> house.pass(1));
        CHECKS.refuses("beyond 9999, wrong", Checks.ARGUMENT, () -> house.pass(0));
    }

    private static void bill() {
        int[][] rows = {{1, 3}, {10, 3}, {11, 4}, {20, 4}, {21, 5}, {40, 6}};
        for (int[] row : rows) {
            MouthpieceRow house = Houses.apart(2);
            house.addPipe(0, 1, row[0], 0, 0);
            house.call(0, 1);
            CHECKS.same("a call over " + row[0], row[1], house.bill(0));
            CHECKS.same("the room that is called", 0, house.bill(1));
        }
        MouthpieceRow house = Houses.apart(3);
        house.addPipe(0, 1, 5, 0, 0);
        house.addPipe(1, 2, 6, 0, 0);
        house.call(0, 2);
        CHECKS.same("lengths together", 4, house.bill(0));
        house.hang(0);
        house.call(0, 1);
        CHECKS.same("both calls", 7, house.bill(0));
        CHECKS.refuses("room 3", Checks.INDEX, () -> house.bill(3));
        CHECKS.refuses("room -1", Checks.INDEX, () -> house.bill(-1));
    }
}
