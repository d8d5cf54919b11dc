/** Houses that several tests begin with. */
final class Houses {
    private Houses() {
    }

    /** Rooms with mouthpieces, without noise, on floor 0, each joined to the next by a pipe that loses 1. */
    static MouthpieceRow row(int rooms) {
        MouthpieceRow house = new MouthpieceRow();
        for (int i = 0; i < rooms; i++) {
            house.addRoom(0, 0, true);
        }
        for (int i = 0; i + 1 < rooms; i++) {
            house.addPipe(i, i + 1, 4, 0, 0);
        }
        return house;
    }

    /** A row of rooms with a person of rank 5 in each. */
    static MouthpieceRow peopled(int rooms) {
        MouthpieceRow house = row(rooms);
        for (int i = 0; i < rooms; i++) {
            house.addPerson(i, 5);
        }
        return house;
    }

    /** Rooms that no pipe joins, with a person of rank 5 in each. */
    static MouthpieceRow apart(int rooms) {
        MouthpieceRow house = new MouthpieceRow();
        for (int i = 0; i < rooms; i++) {
            house.addRoom(0, 0, true);
            house.addPerson(i, 5);
        }
        return house;
    }

    /** A house in which person 1 knows the a of message 0, 'cat', and person 2 nothing; the call 0 is on. */
    static MouthpieceRow halfHeard() {
        MouthpieceRow house = peopled(2);
        house.addPerson(1, 0);
        house.sleep(2, 9);
        house.call(0, 1);
        house.clog(0, 34);
        say(house, 0, "cat");
        house.sleep(2, 0);
        return house;
    }

    /** The room without a mouthpiece, and the one to which no open pipe leads, in a busy house. */
    static final int MUTE = 3;
    static final int FAR = 4;

    /**
     * A house in which something of each kind is there, and nothing is full. Call 0 has ended; call 1, of person
     * 0, is on over pipe 0. Person 3 sleeps; person 1 knows the a of message 1, 'cat', and person 2 nothing.
     * Person 1 began an alarm. Of message 0, 'at', nobody but its author, person 5, knows a letter; it is done.
     */
    static MouthpieceRow busy() {
        MouthpieceRow house = new MouthpieceRow();
        int[][] rooms = {{0, 0}, {1, 1}, {2, 2}, {5, 9}, {5, 0}};
        for (int i = 0; i < rooms.length; i++) {
            house.addRoom(rooms[i][0], rooms[i][1], i != MUTE);
        }
        house.addPipe(0, 1, 4, 0, 0);
        house.addPipe(1, 2, 4, 0, 0);
        house.addPipe(2, MUTE, 4, 0, 0);
        house.addPipe(MUTE, FAR, 4, 0, 0);
        house.addPipe(0, 2, 40, 9, 9);
        int[][] people = {{0, 5}, {1, 3}, {2, 7}, {2, 2}, {FAR, 9}, {1, 4}};
        for (int[] one : people) {
            house.addPerson(one[0], one[1]);
        }
        order(house, "hat");
        order(house, "on");
        house.call(5, 2);
        house.clog(0, 40);
        house.clog(1, 40);
        house.sleep(1, 1);
        say(house, 0, "at");
        house.sleep(1, 0);
        house.doIt(5, 0);
        house.hang(0);
        house.pass(3);
        house.clog(0, 0);
        house.call(0, 1);
        house.clog(0, 32);
        house.sleep(5, 1);
        say(house, 1, "cat");
        house.sleep(5, 0);
        house.setValve(3, false);
        house.sleep(3, 4);
        house.setLine(0, 1);
        house.setLine(1, 0);
        house.setCode(true);
        house.alarm(1);
        type(house, "ab");
        return house;
    }

    /**
     * A house in which all that is counted is full: 10 rooms, the last one without a mouthpiece, 16 pipes, 10
     * people, 60 calls, of which those from 56 on are on, 8 orders, 'a' to 'h', 12 typed letters, 40 messages and
     * the minute 9999. It takes 279 calls.
     */
    static MouthpieceRow full() {
        MouthpieceRow house = new MouthpieceRow();
        for (int i = 0; i < 10; i++) {
            house.addRoom(i % 6, 0, i < 9);
        }
        for (int i = 0; i < 16; i++) {
            house.addPipe(Math.min(i, 8), Math.min(i + 1, 9), 4, 0, 0);
        }
        for (int i = 0; i < 10; i++) {
            house.addPerson(Math.min(i, 8), i == 9 ? 9 : 5);
        }
        for (int i = 0; i < 8; i++) {
            order(house, "abcdefgh".substring(i, i + 1));
        }
        house.call(0, 1);
        for (int i = 0; i < 40; i++) {
            say(house, 0, "e");
        }
        house.hang(0);
        sixtyCalls(house);
        for (int i = 0; i < 16; i++) {
            house.pass(600);
        }
        house.pass(399);
        house.setLine(0, 0);
        house.setLine(1, 3);
        type(house, "zzzzzzzzzzzz");
        return house;
    }

    /** After one call that has ended there are 60 then, the last four of which are on. */
    private static void sixtyCalls(MouthpieceRow house) {
        for (int i = 1; i < 56; i++) {
            house.call(0, 1);
            house.hang(i);
        }
        for (int i = 0; i < 8; i += 2) {
            house.call(i, i + 1);
        }
    }

    static void type(MouthpieceRow house, String word) {
        for (int i = 0; i < word.length(); i++) {
            house.type(word.charAt(i));
        }
    }

    static int order(MouthpieceRow house, String word) {
        type(house, word);
        return house.addOrder();
    }

    static int say(MouthpieceRow house, int call, String word) {
        type(house, word);
        return house.say(call);
    }

    /** What somebody knows of a message, a dot for each letter that is not known. */
    static String known(MouthpieceRow house, int person, int message, int length) {
        StringBuilder letters = new StringBuilder();
        for (int i = 0; i < length; i++) {
            letters.append(house.knows(person, message, i) ? house.letterAt(person, message, i) : '.');
        }
        return letters.toString();
    }
}
