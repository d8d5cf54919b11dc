import java.util.ArrayList;
import java.util.List;

/** Bills at each begun 10, the first and the last minute, and the sums of empty, small and full houses. */
public final class SumsEdgesTest {
    private static final Checks CHECKS = new Checks("SumsEdgesTest");

    public static void main(String[] args) {
        billOfEachLength();
        billOfLengthsTogether();
        billOfTheLongestCall();
        billOfMany();
        billOfWhoMovesOn();
        minutes();
        checksumOfLittle();
        checksumOfCalls();
        checksumBelowZero();
        checksumOfAFullHouse();
        checksumOfNothingElse();
        shares();
        meanOfFew();
        meanOfTen();
        soundHouses();
        CHECKS.end();
    }

    private static void billOfEachLength() {
        for (int length = 1; length <= 40; length++) {
            MouthpieceRow house = Houses.apart(2);
            house.addPipe(0, 1, length, 0, 0);
            house.call(0, 1);
            int due = 2 + length / 10 + (length % 10 == 0 ? 0 : 1);
            CHECKS.same("a call over " + length, due, house.bill(0));
            CHECKS.same("who is called", 0, house.bill(1));
        }
    }

    private static void billOfLengthsTogether() {
        int[][] rows = {{5, 5, 3}, {5, 6, 4}, {9, 11, 4}, {1, 9, 3}, {1, 10, 4}, {19, 1, 4}, {11, 11, 5}};
        for (int[] row : rows) {
            MouthpieceRow house = Houses.apart(3);
            house.addPipe(0, 1, row[0], 0, 0);
            house.addPipe(1, 2, row[1], 0, 0);
            house.call(0, 2);
            CHECKS.same("a call over " + row[0] + " and " + row[1], row[2], house.bill(0));
            CHECKS.same("the room that is passed", 0, house.bill(1));
        }
        MouthpieceRow house = Houses.apart(2);
        house.addPipe(0, 1, 4, 9, 9);
        house.clog(0, 1);
        house.call(0, 1);
        CHECKS.same("bends, leak and clog cost nothing", 3, house.bill(0));
    }

    /** 39 can be lost at most, which is 156 of length. */
    private static void billOfTheLongestCall() {
        MouthpieceRow house = Houses.apart(5);
        for (int i = 0; i < 4; i++) {
            house.addPipe(i, i + 1, i < 3 ? 40 : 36, 0, 0);
        }
        CHECKS.same("strength", 1, house.strength(0, 4));
        house.call(0, 4);
        CHECKS.same("156", 18, house.bill(0));
        MouthpieceRow row = Houses.peopled(10);
        row.call(0, 9);
        CHECKS.same("nine pipes of 4", 6, row.bill(0));
    }

    private static void billOfMany() {
        MouthpieceRow house = Houses.row(2);
        house.setLine(0, 0);
        house.setLine(1, 0);
        house.addPerson(0, 0);
        house.addPerson(0, 1);
        CHECKS.same("nothing at first", 0, house.bill(0));
        house.call(0, 1);
        CHECKS.same("a call", 3, house.bill(0));
        house.call(1, 1);
        CHECKS.same("another one, that interrupts it", 6, house.bill(0));
        Houses.say(house, 1, "a");
        house.tellOn(1, 0);
        CHECKS.same("saying costs nothing", 6, house.bill(0));
        house.phoneOn(0, 1, 0);
        CHECKS.same("a telephone", 7, house.bill(0));
        house.pass(600);
        house.alarm(0);
        house.passOn(0);
        house.whistle(0, 1);
        CHECKS.same("minutes, alarms and whistles cost nothing", 7, house.bill(0));
        CHECKS.same("nothing in the other room", 0, house.bill(1));
    }

    private static void billOfWhoMovesOn() {
        MouthpieceRow house = Houses.peopled(2);
        house.call(0, 1);
        house.hang(0);
        house.move(0, 1);
        house.call(0, 0);
        CHECKS.same("the first room", 3, house.bill(0));
        CHECKS.same("the second room", 3, house.bill(1));
    }

    private static void minutes() {
        MouthpieceRow house = new MouthpieceRow();
        int minute = 0;
        for (int minutes : new int[] {1, 600, 1, 599, 2}) {
            minute += minutes;
            CHECKS.same("minute", minute, house.pass(minutes));
        }
        for (int wrong : new int[] {0, -1, 601, Integer.MIN_VALUE, Integer.MAX_VALUE}) {
            CHECKS.refuses("minutes " + wrong, Checks.ARGUMENT, () -> house.pass(wrong));
        }
        CHECKS.same("it is as it was", minute + 1, house.pass(1));
    }

    private static long fold(List<Integer> numbers) {
        long sum = 7;
        for (int number : numbers) {
            sum = 31 * sum + number;
        }
        return sum;
    }

    private static void checksumOfLittle() {
        MouthpieceRow house = new MouthpieceRow();
        CHECKS.same("nothing but the minute", 217L, house.checksum());
        house.addRoom(5, 9, true);
        CHECKS.same("a room", 6727L, house.checksum());
        house.addPerson(0, 9);
        CHECKS.same("a person", 6464647L, house.checksum());
        house.sleep(0, 9);
        CHECKS.same("asleep", 6464647L + 9 * 31 * 31, house.checksum());
        house.pass(600);
        CHECKS.same("a minute", 6464647L + 9 * 31 * 31 + 600, house.checksum());
    }

    private static void checksumOfCalls() {
        MouthpieceRow house = Houses.row(2);
        house.addPerson(1, 0);
        house.call(0, 0);
        CHECKS.same("on", fold(List.of(1, 0, 1, 0, 3, 0)), house.checksum());
        house.hang(0);
        CHECKS.same("ended", fold(List.of(1, 0, 0, 0, 3, 0)), house.checksum());
        house.call(0, 0);
        CHECKS.same("one of each", fold(List.of(1, 0, 0, 1, 0, 6, 0)), house.checksum());
        house.setValve(0, false);
        CHECKS.same("both ended", fold(List.of(1, 0, 0, 0, 0, 6, 0)), house.checksum());
    }

    /** With more numbers than a long has room for it goes round, and a time comes when it is below 0. */
    private static void checksumBelowZero() {
        MouthpieceRow house = Houses.row(1);
        List<Integer> people = new ArrayList<>();
        boolean wasBelow = false;
        for (int i = 0; i < 10; i++) {
            house.addPerson(0, 0);
            house.sleep(i, i % 10);
            people.add(0);
            people.add(i % 10);
            List<Integer> all = new ArrayList<>(people);
            all.add(0);
            all.add(0);
            CHECKS.same("with " + (i + 1), fold(all), house.checksum());
            wasBelow |= house.checksum() < 0;
        }
        CHECKS.same("below 0 once", true, wasBelow);
    }

    private static void checksumOfAFullHouse() {
        List<Integer> numbers = new ArrayList<>();
        for (int i = 0; i < 10; i++) {
            numbers.add(Math.min(i, 8));
            numbers.add(0);
        }
        for (int i = 0; i < 40 * 10; i++) {
            numbers.add(1);
        }
        for (int i = 0; i < 60; i++) {
            numbers.add(i < 56 ? 0 : 1);
        }
        int[] owed = {171, 0, 3, 0, 3, 0, 3, 0, 0, 0};
        for (int one : owed) {
            numbers.add(one);
        }
        numbers.add(9999);
        CHECKS.same("a full house", fold(numbers), Houses.full().checksum());
    }

    /** Noise, valves, clogs, orders, typed letters, lines, the code and alarms are not in it. */
    private static void checksumOfNothingElse() {
        MouthpieceRow house = Houses.busy();
        long before = house.checksum();
        house.setNoise(0, 9);
        house.setValve(3, true);
        house.clog(4, 1);
        house.addOrder();
        house.type('a');
        house.setLine(0, 3);
        house.setCode(false);
        house.alarm(0);
        house.doIt(0, 1);
        CHECKS.same("as before", before, house.checksum());
        CHECKS.same("and asking changes nothing", before, house.checksum());
    }

    /** Of 40 messages those with an even number are done rightly. */
    private static void shares() {
        MouthpieceRow house = Houses.peopled(2);
        house.call(0, 1);
        for (int i = 0; i < 40; i++) {
            Houses.say(house, 0, "a");
            if (i % 2 == 0) {
                house.doIt(1, i);
            }
            CHECKS.same("share of " + (i + 1), (float) (i / 2 + 1) / (float) (i + 1), house.rightShare());
        }
    }

    private static void meanOfFew() {
        MouthpieceRow house = new MouthpieceRow();
        for (int i = 0; i < 3; i++) {
            house.addRoom(0, 0, i != 1);
            if (i < 2) {
                CHECKS.refuses("mean of " + (i + 1), Checks.MISSING, house::meanHeard);
            }
        }
        CHECKS.same("two that no pipe joins", 0.0, house.meanHeard());
        house.addPipe(0, 2, 40, 9, 9);
        CHECKS.same("two", 3.0, house.meanHeard());
        house.setNoise(0, 2);
        CHECKS.same("1 and 3", 2.0, house.meanHeard());
        house.setNoise(2, 9);
        CHECKS.same("1 and 0", 0.5, house.meanHeard());
        house.setNoise(1, 9);
        CHECKS.same("the noise of one without mouthpiece", 0.5, house.meanHeard());
    }

    private static void meanOfTen() {
        MouthpieceRow house = Houses.row(10);
        int sum = 0;
        for (int i = 0; i < 10; i++) {
            for (int j = 0; j < 10; j++) {
                sum += i == j ? 0 : house.heard(i, j);
            }
        }
        CHECKS.same("of 90 pairs", (double) sum / 90.0, house.meanHeard());
        CHECKS.same("the own room is not among them", true, house.meanHeard() < 39.0);
    }

    private static void soundHouses() {
        CHECKS.same("empty", true, new MouthpieceRow().isSound());
        CHECKS.same("busy", true, Houses.busy().isSound());
        CHECKS.same("full", true, Houses.full().isSound());
        MouthpieceRow house = Houses.peopled(3);
        house.call(0, 1);
        house.call(1, 2);
        house.setValve(0, false);
        CHECKS.same("shut under a call", true, house.isSound());
        house.sleep(0, 9);
        CHECKS.same("who called sleeps", true, house.isSound());
        Houses.say(house, 1, "a");
        house.pass(600);
        house.hang(1);
        house.sleep(0, 0);
        house.move(0, 2);
        house.tell(2, 0, 0);
        CHECKS.same("told on later", true, house.isSound());
    }
}
