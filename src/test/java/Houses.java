/** Houses that several tests begin with. */
final class Houses {
    private Houses() {
    }

    /** Rooms with mouthpieces, without noise, on floor 0, each joined to the next by a pipe that loses 1. */
    static MouthpieceRow row(int rooms) {
        MouthpieceRow house = new MouthpieceRow();
        for (int i = 0; i < rooms; i++) {
            house.addRoom(0, 0, true);
        }
        for (int i = 0; i + 1 < rooms; i++) {
            house.addPipe(i, i + 1, 4, 0, 0);
        }
        return house;
    }

    /** A row of rooms with a person of rank 5 in each. */
    static MouthpieceRow peopled(int rooms) {
        MouthpieceRow house = row(rooms);
        for (int i = 0; i < rooms; i++) {
            house.addPerson(i, 5);
        }
        return house;
    }

    /** Rooms that no pipe joins, with a person of rank 5 in each. */
    static MouthpieceRow apart(int rooms) {
        MouthpieceRow house = new MouthpieceRow();
        for (int i = 0; i < rooms; i++) {
            house.addRoom(0, 0, true);
            house.addPerson(i, 5);
        }
        return house;
    }

    /** A house in which person 1 knows the a of message 0, 'cat', and person 2 nothing; the call 0 is on. */
    static MouthpieceRow halfHeard() {
        MouthpieceRow house = peopled(2);
        house.addPerson(1, 0);
        house.sleep(2, 9);
        house.call(0, 1);
        house.clog(0, 34);
        say(house, 0, "cat");
        house.sleep(2, 0);
        return house;
    }

    static void type(MouthpieceRow house, String word) {
        for (int i = 0; i < word.length(); i++) {
            house.type(word.charAt(i));
        }
    }

    static int order(MouthpieceRow house, String word) {
        type(house, word);
        return house.addOrder();
    }

    static int say(MouthpieceRow house, int call, String word) {
        type(house, word);
        return house.say(call);
    }

    /** What somebody knows of a message, a dot for each letter that is not known. */
    static String known(MouthpieceRow house, int person, int message, int length) {
        StringBuilder letters = new StringBuilder();
        for (int i = 0; i < length; i++) {
            letters.append(house.knows(person, message, i) ? house.letterAt(person, message, i) : '.');
        }
        return letters.toString();
    }
}
