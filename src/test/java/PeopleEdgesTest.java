/** Who just wakes, or just does not; which calls interrupt which; which floors have answered. */
public final class PeopleEdgesTest {
    private static final Checks CHECKS = new Checks("PeopleEdgesTest");

    public static void main(String[] args) {
        depths();
        whistleToEachDepth();
        whistleJustHeard();
        whistleAgainstNoise();
        whistleToManyAndNobody();
        alarmToEachDepth();
        alarmInTheOwnRoom();
        alarmJustHeard();
        interruptsEachLowerRank();
        interruptsAllOrNone();
        interruptedCallersGoOn();
        endedCallsHoldNothing();
        shutPipesEndCalls();
        callsThatNobodyHears();
        hangTwice();
        floors();
        floorsWithoutPeople();
        alarmOfOneFloor();
        alarmThatIsOver();
        CHECKS.end();
    }

    private static void depths() {
        MouthpieceRow house = Houses.peopled(1);
        int before = 0;
        for (int depth : new int[] {1, 9, 0, 0, 9, 9, 1}) {
            CHECKS.same("depth before " + depth, before, house.sleep(0, depth));
            CHECKS.same("depth", depth, house.depth(0));
            before = depth;
        }
    }

    /** Two rooms, joined by a pipe that loses 10 to 69, with a person in each. */
    private static MouthpieceRow joined(int loss) {
        MouthpieceRow house = Houses.apart(2);
        int leak = loss < 60 ? 0 : 9;
        house.addPipe(0, 1, 40, loss < 50 ? 0 : 5, leak);
        house.clog(0, loss - house.loses(0));
        CHECKS.same("the loss that is wanted", loss, house.loses(0));
        return house;
    }

    private static void whistleToEachDepth() {
        for (int depth = 1; depth <= 9; depth++) {
            MouthpieceRow enough = joined(60 - 5 * depth);
            enough.sleep(1, depth);
            CHECKS.same("5 times depth " + depth, 1, enough.whistle(0, 1));
            CHECKS.same("awake then", 0, enough.depth(1));
            MouthpieceRow little = joined(61 - 5 * depth);
            little.sleep(1, depth);
            CHECKS.same("1 less than 5 times depth " + depth, 0, little.whistle(0, 1));
            CHECKS.same("asleep still", depth, little.depth(1));
        }
    }

    /** Between 40 and 59 no voice comes, but a whistle does; depth 1 needs 5 of it. */
    private static void whistleJustHeard() {
        for (int loss = 39; loss <= 61; loss++) {
            MouthpieceRow house = joined(loss);
            house.sleep(1, 1);
            CHECKS.same("voice over " + loss, Math.max(0, 40 - loss), house.strength(0, 1));
            CHECKS.same("whistle over " + loss, loss <= 55 ? 1 : 0, house.whistle(0, 1));
        }
        MouthpieceRow shut = joined(10);
        shut.sleep(1, 1);
        shut.setValve(0, false);
        CHECKS.same("whistle at a shut pipe", 0, shut.whistle(0, 1));
    }

    private static void whistleAgainstNoise() {
        for (int noise = 0; noise <= 9; noise++) {
            MouthpieceRow house = joined(25);
            house.setNoise(1, noise);
            house.setNoise(0, 9);
            house.sleep(1, 6);
            CHECKS.same("35 less " + noise + " for depth 6", noise <= 5 ? 1 : 0, house.whistle(0, 1));
        }
        MouthpieceRow branched = joined(14);
        branched.sleep(1, 9);
        branched.addPipe(0, branched.addRoom(0, 0, true), 1, 0, 0);
        CHECKS.same("one branch where it begins", 1, branched.whistle(0, 1));
        branched.sleep(1, 9);
        branched.addPipe(0, 2, 1, 0, 0);
        CHECKS.same("two branches", 0, branched.whistle(0, 1));
    }

    private static void whistleToManyAndNobody() {
        MouthpieceRow house = Houses.row(3);
        for (int i = 0; i < 10; i++) {
            house.addPerson(i < 8 ? 1 : i == 8 ? 0 : 2, 0);
        }
        for (int i = 0; i < 8; i++) {
            house.sleep(i, 1 + i);
        }
        house.sleep(9, 1);
        CHECKS.same("eight in one room", 8, house.whistle(8, 1));
        CHECKS.same("nobody is left", 0, house.whistle(8, 1));
        CHECKS.same("not who sleeps elsewhere", 1, house.depth(9));
        CHECKS.same("by one who woke", 1, house.whistle(0, 2));
        house.move(9, 1);
        CHECKS.same("into an empty room", 0, house.whistle(8, 2));
    }

    private static void alarmToEachDepth() {
        for (int depth = 1; depth <= 6; depth++) {
            MouthpieceRow enough = joined(40 - 5 * depth);
            enough.alarm(0);
            enough.sleep(1, depth);
            CHECKS.same("5 times depth " + depth, 1, enough.passOn(0));
            CHECKS.same("awake then", 0, enough.depth(1));
            CHECKS.same("knows then", true, enough.knowsAlarm(1));
            MouthpieceRow little = joined(41 - 5 * depth);
            little.alarm(0);
            little.sleep(1, depth);
            CHECKS.same("1 less than 5 times depth " + depth, 0, little.passOn(0));
            CHECKS.same("asleep still", depth, little.depth(1));
            CHECKS.same("knows nothing", false, little.knowsAlarm(1));
        }
    }

    private static void alarmInTheOwnRoom() {
        for (int depth = 1; depth <= 9; depth++) {
            for (int noise = 0; noise <= 9; noise += 1) {
                MouthpieceRow house = Houses.row(1);
                house.setNoise(0, noise);
                house.addPerson(0, 0);
                house.addPerson(0, 0);
                house.sleep(1, depth);
                house.alarm(0);
                int due = 40 - noise >= 5 * depth ? 1 : 0;
                CHECKS.same("depth " + depth + " in noise " + noise, due, house.passOn(0));
                CHECKS.same("depth then", due == 1 ? 0 : depth, house.depth(1));
            }
        }
    }

    private static void alarmJustHeard() {
        MouthpieceRow house = joined(39);
        house.alarm(0);
        house.setNoise(1, 1);
        CHECKS.same("nothing is heard", 0, house.passOn(0));
        house.setNoise(1, 0);
        CHECKS.same("1 is heard", 1, house.passOn(0));
        MouthpieceRow far = joined(40);
        far.alarm(0);
        CHECKS.same("sound does not come", 0, far.passOn(0));
        CHECKS.same("one floor, which has answered", 0, far.unanswered());
    }

    private static void interruptsEachLowerRank() {
        for (int rank = 0; rank <= 9; rank++) {
            for (int other = 0; other <= 9; other++) {
                MouthpieceRow house = Houses.row(2);
                house.addPerson(0, rank);
                house.addPerson(1, other);
                house.call(0, 1);
                String what = "rank " + other + " over rank " + rank;
                if (other > rank) {
                    CHECKS.same(what, 1, house.call(1, 0));
                } else {
                    CHECKS.refuses(what, Checks.UNSUPPORTED, () -> house.call(1, 0));
                }
                CHECKS.same(what + ", the first is on", other <= rank, house.isOn(0));
                CHECKS.same(what + ", interrupted", other > rank ? 1 : 0, house.interrupted());
            }
        }
    }

    /** Three calls over the pipes 0, 1 and 2, one of them of rank 5; somebody of rank 5 or 6 calls over all. */
    private static void interruptsAllOrNone() {
        for (int strong = 0; strong < 3; strong++) {
            int which = strong;
            Refusals.Plan plan = () -> {
                MouthpieceRow house = Houses.row(4);
                for (int i = 0; i < 3; i++) {
                    house.addPerson(i, i == which ? 5 : 4);
                    house.call(i, i + 1);
                }
                house.addPerson(0, 5);
                house.addPerson(3, 6);
                return house;
            };
            Refusals refusals = new Refusals(CHECKS, "call " + strong + " of rank 5", plan);
            refusals.refuse("a call over all", Checks.UNSUPPORTED, house -> house.call(3, 3));
            MouthpieceRow house = plan.build();
            CHECKS.same("rank 6 over all", 3, house.call(4, 0));
            CHECKS.same("three interrupted", 3, house.interrupted());
            CHECKS.same("none is on", false, house.isOn(0) || house.isOn(1) || house.isOn(2));
            CHECKS.same("they are paid", 3, house.bill(1));
            CHECKS.same("over all is paid", 4, house.bill(3));
        }
    }

    private static void interruptedCallersGoOn() {
        MouthpieceRow house = Houses.row(3);
        house.addPerson(0, 1);
        house.addPerson(1, 2);
        house.call(0, 1);
        house.call(1, 0);
        CHECKS.refuses("nothing is said in it", Checks.UNSUPPORTED, () -> Houses.say(house, 0, "a"));
        CHECKS.same("it is not on", false, house.hang(0));
        CHECKS.same("who was interrupted may sleep", 0, house.sleep(0, 1));
        house.sleep(0, 0);
        CHECKS.same("and move", 0, house.move(0, 2));
        CHECKS.same("and call", 2, house.call(0, 1));
        CHECKS.same("beside the other one", true, house.isOn(1));
    }

    private static void endedCallsHoldNothing() {
        MouthpieceRow house = Houses.peopled(2);
        house.call(0, 1);
        house.hang(0);
        CHECKS.same("the pipe of a call that hung up", 1, house.call(1, 0));
        house.setValve(0, false);
        house.setValve(0, true);
        CHECKS.same("the pipe of a call that a valve ended", 2, house.call(0, 1));
        CHECKS.same("none interrupted", 0, house.interrupted());
    }

    private static void shutPipesEndCalls() {
        for (int pipe = 0; pipe < 4; pipe++) {
            MouthpieceRow house = Houses.peopled(5);
            house.call(0, 3);
            house.setValve(pipe, true);
            CHECKS.same("opening an open one", true, house.isOn(0));
            CHECKS.same("open before", true, house.setValve(pipe, false));
            CHECKS.same("pipe " + pipe + " is shut", pipe == 3, house.isOn(0));
            CHECKS.same("shut before", false, house.setValve(pipe, false));
            CHECKS.same("shut before", false, house.setValve(pipe, true));
            CHECKS.same("it stays as it is", pipe == 3, house.isOn(0));
        }
        MouthpieceRow last = Houses.apart(2);
        for (int i = 0; i < 16; i++) {
            last.addPipe(0, 1, 4, 0, i == 15 ? 0 : 9);
        }
        last.call(0, 1);
        last.setValve(0, false);
        CHECKS.same("beside pipe 15", true, last.isOn(0));
        last.setValve(15, false);
        CHECKS.same("pipe 15", false, last.isOn(0));
    }

    private static void callsThatNobodyHears() {
        MouthpieceRow house = joined(39);
        house.setNoise(1, 9);
        CHECKS.same("sound just comes", 0, house.call(0, 1));
        house.clog(0, 40);
        CHECKS.same("a clog does not end it", true, house.isOn(0));
        Houses.say(house, 0, "e");
        CHECKS.same("nobody hears", false, house.knows(1, 0, 0));
        CHECKS.same("the fate", 'n', house.fate(0));
        CHECKS.same("told on to nobody", 0, house.tellOn(0, 0));
        house.hang(0);
        CHECKS.refuses("sound does not come any more", Checks.UNSUPPORTED, () -> house.call(0, 1));
        house.clog(0, 29);
        CHECKS.same("it just comes again", 1, house.call(0, 1));
    }

    private static void hangTwice() {
        MouthpieceRow house = Houses.busy();
        CHECKS.same("one that has ended", false, house.hang(0));
        CHECKS.same("one that is on", true, house.hang(1));
        CHECKS.same("the same again", false, house.hang(1));
        CHECKS.same("none interrupted", 0, house.interrupted());
    }

    /** A person on each of the floors 0 to 5, in rooms in a row. */
    private static MouthpieceRow tower(int floors) {
        MouthpieceRow house = new MouthpieceRow();
        for (int i = 0; i < floors; i++) {
            house.addRoom(i, 0, true);
            house.addPerson(i, 0);
        }
        for (int i = 0; i + 1 < floors; i++) {
            house.addPipe(i, i + 1, 4, 0, 0);
        }
        return house;
    }

    private static void floors() {
        for (int floors = 1; floors <= 6; floors++) {
            MouthpieceRow house = tower(floors);
            CHECKS.same("no alarm on " + floors, 0, house.unanswered());
            CHECKS.same("one of " + floors, floors - 1, house.alarm(floors - 1));
            CHECKS.same("the same", floors - 1, house.unanswered());
            CHECKS.same("all others", floors - 1, house.passOn(floors - 1));
            CHECKS.same("all have answered", 0, house.unanswered());
            CHECKS.same("nobody more", 0, house.passOn(0));
            CHECKS.same("another alarm", floors - 1, house.alarm(0));
        }
        MouthpieceRow house = tower(6);
        house.setValve(2, false);
        house.alarm(0);
        CHECKS.same("two more floors", 2, house.passOn(0));
        CHECKS.same("three are left", 3, house.unanswered());
    }

    private static void floorsWithoutPeople() {
        MouthpieceRow house = new MouthpieceRow();
        CHECKS.same("an empty house", 0, house.unanswered());
        house.addRoom(5, 0, true);
        house.addRoom(0, 0, true);
        CHECKS.same("a house without people", 0, house.unanswered());
        house.addPerson(0, 0);
        CHECKS.same("the only person", 0, house.alarm(0));
        CHECKS.same("to nobody", 0, house.passOn(0));
        house.addPerson(1, 0);
        CHECKS.same("somebody comes", 1, house.unanswered());
        house.sleep(1, 9);
        CHECKS.same("who sleeps is on a floor, too", 1, house.unanswered());
        house.sleep(0, 9);
        CHECKS.same("and answers for it", 1, house.unanswered());
    }

    private static void alarmOfOneFloor() {
        MouthpieceRow house = Houses.apart(10);
        CHECKS.same("ten on one floor", 0, house.alarm(9));
        for (int i = 0; i < 9; i++) {
            CHECKS.same("knows " + i, false, house.knowsAlarm(i));
        }
        CHECKS.same("the last one", true, house.knowsAlarm(9));
        CHECKS.same("nobody by no pipe", 0, house.passOn(9));
    }

    /** The alarm is over as soon as it begins, but it is known and can be passed on. */
    private static void alarmThatIsOver() {
        MouthpieceRow house = Houses.peopled(2);
        CHECKS.same("over", 0, house.alarm(0));
        CHECKS.same("known", true, house.knowsAlarm(0));
        CHECKS.same("passed on", 1, house.passOn(0));
        CHECKS.same("by the other one, too", 0, house.passOn(1));
    }
}
