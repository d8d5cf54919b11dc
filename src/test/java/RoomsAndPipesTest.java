/** Promises 1 to 11: rooms, pipes and the ways of sound. */
public final class RoomsAndPipesTest {
    private static final Checks CHECKS = new Checks("RoomsAndPipesTest");

    public static void main(String[] args) {
        newObject();
        addRoom();
        setNoise();
        addPipe();
        setValve();
        clog();
        loses();
        strengthByBranches();
        strengthByBestWay();
        heard();
        wayLength();
        wayAt();
        lowerPipeFirst();
        CHECKS.end();
    }

    private static void newObject() {
        MouthpieceRow house = new MouthpieceRow();
        CHECKS.refuses("no room", Checks.INDEX, () -> house.bill(0));
        CHECKS.refuses("no pipe", Checks.INDEX, () -> house.loses(0));
        CHECKS.refuses("no person", Checks.INDEX, () -> house.depth(0));
        CHECKS.refuses("no call", Checks.INDEX, () -> house.isOn(0));
        CHECKS.refuses("no message", Checks.INDEX, () -> house.fate(0));
        CHECKS.same("nothing typed", 0, house.wipe());
        CHECKS.same("no interruption", 0, house.interrupted());
        CHECKS.same("no alarm", 0, house.unanswered());
        CHECKS.same("the code is off", false, house.setCode(false));
        CHECKS.same("the sum of a new house", 217L, house.checksum());
        CHECKS.same("the first minute", 1, house.pass(1));
        CHECKS.same("sound at first", true, house.isSound());
    }

    private static void addRoom() {
        MouthpieceRow house = new MouthpieceRow();
        int[][] wrong = {{-1, 0}, {6, 0}, {0, -1}, {0, 10}, {Integer.MIN_VALUE, 0}, {0, Integer.MAX_VALUE}};
        for (int[] pair : wrong) {
            CHECKS.refuses("room " + pair[0] + " " + pair[1], Checks.ARGUMENT,
                    () -> house.addRoom(pair[0], pair[1], true));
        }
        CHECKS.same("room 0", 0, house.addRoom(0, 0, false));
        CHECKS.same("room 1", 1, house.addRoom(5, 9, true));
        CHECKS.same("noise is kept", 9, house.setNoise(1, 9));
        for (int i = 2; i < 10; i++) {
            CHECKS.same("room", i, house.addRoom(1, 1, true));
        }
        CHECKS.refuses("an 11th room", Checks.STATE, () -> house.addRoom(1, 1, true));
        CHECKS.refuses("an 11th room, wrong", Checks.ARGUMENT, () -> house.addRoom(6, 1, true));
        CHECKS.refuses("no room 10", Checks.INDEX, () -> house.bill(10));
    }

    private static void setNoise() {
        MouthpieceRow house = Houses.row(2);
        CHECKS.same("noise before", 0, house.setNoise(1, 9));
        CHECKS.same("noise before", 9, house.setNoise(1, 3));
        CHECKS.refuses("noise 10", Checks.ARGUMENT, () -> house.setNoise(1, 10));
        CHECKS.refuses("noise -1", Checks.ARGUMENT, () -> house.setNoise(1, -1));
        CHECKS.refuses("room 2", Checks.INDEX, () -> house.setNoise(2, 10));
        CHECKS.refuses("room -1", Checks.INDEX, () -> house.setNoise(-1, 0));
        CHECKS.same("noise after wrong calls", 3, house.setNoise(1, 3));
        CHECKS.same("noise of the other room", 0, house.setNoise(0, 0));
    }

    private static void addPipe() {
        MouthpieceRow house = Houses.apart(3);
        int[][] wrong = {{1, 1, 4, 0, 0}, {0, 1, 0, 0, 0}, {0, 1, 41, 0, 0}, {0, 1, 4, -1, 0}, {0, 1, 4, 10, 0},
            {0, 1, 4, 0, -1}, {0, 1, 4, 0, 10}};
        for (int[] row : wrong) {
            CHECKS.refuses("pipe " + java.util.Arrays.toString(row), Checks.ARGUMENT,
                    () -> house.addPipe(row[0], row[1], row[2], row[3], row[4]));
        }
        CHECKS.refuses("from room 3", Checks.INDEX, () -> house.addPipe(3, 3, 4, 0, 0));
        CHECKS.refuses("to room 3", Checks.INDEX, () -> house.addPipe(0, 3, 0, 0, 0));
        CHECKS.refuses("to room -1", Checks.INDEX, () -> house.addPipe(0, -1, 4, 0, 0));
        CHECKS.same("no pipe yet", 0, house.strength(0, 1));
        CHECKS.same("pipe 0", 0, house.addPipe(0, 1, 1, 0, 0));
        CHECKS.same("pipe 1", 1, house.addPipe(1, 2, 40, 9, 9));
        CHECKS.same("it is open", true, house.setValve(1, true));
        CHECKS.same("it has no clog", 0, house.clog(1, 0));
        for (int i = 2; i < 16; i++) {
            CHECKS.same("pipe", i, house.addPipe(2, 0, 1, 0, 0));
        }
        CHECKS.refuses("a 17th pipe", Checks.STATE, () -> house.addPipe(0, 1, 1, 0, 0));
        CHECKS.refuses("a 17th pipe, wrong", Checks.ARGUMENT, () -> house.addPipe(0, 1, 41, 0, 0));
        CHECKS.same("the last pipe", 1, house.loses(15));
        CHECKS.refuses("no pipe 16", Checks.INDEX, () -> house.loses(16));
    }

    private static void setValve() {
        MouthpieceRow house = Houses.row(2);
        CHECKS.same("open at first", true, house.setValve(0, false));
        CHECKS.same("shut", 0, house.strength(0, 1));
        CHECKS.same("shut before", false, house.setValve(0, false));
        CHECKS.same("shut before", false, house.setValve(0, true));
        CHECKS.same("open", 39, house.strength(0, 1));
        CHECKS.same("open before", true, house.setValve(0, true));
        CHECKS.refuses("pipe 1", Checks.INDEX, () -> house.setValve(1, true));
        CHECKS.refuses("pipe -1", Checks.INDEX, () -> house.setValve(-1, true));
    }

    private static void clog() {
        MouthpieceRow house = Houses.row(2);
        CHECKS.same("clog before", 0, house.clog(0, 38));
        CHECKS.same("strength 1", 1, house.strength(0, 1));
        CHECKS.same("clog before", 38, house.clog(0, 40));
        CHECKS.refuses("clog 41", Checks.ARGUMENT, () -> house.clog(0, 41));
        CHECKS.refuses("clog -1", Checks.ARGUMENT, () -> house.clog(0, -1));
        CHECKS.refuses("pipe 1", Checks.INDEX, () -> house.clog(1, 41));
        CHECKS.refuses("pipe -1", Checks.INDEX, () -> house.clog(-1, 1));
        CHECKS.same("clog after wrong calls", 40, house.clog(0, 0));
    }

    private static void loses() {
        MouthpieceRow house = Houses.apart(2);
        int[][] rows = {{1, 0, 0, 1}, {4, 0, 0, 1}, {5, 0, 0, 2}, {8, 0, 0, 2}, {40, 0, 0, 10}, {39, 0, 0, 10},
            {4, 3, 0, 7}, {4, 0, 5, 6}, {40, 9, 9, 37}};
        for (int i = 0; i < rows.length; i++) {
            house.addPipe(0, 1, rows[i][0], rows[i][1], rows[i][2]);
            CHECKS.same("loss of row " + i, rows[i][3], house.loses(i));
        }
        house.clog(0, 7);
        CHECKS.same("with a clog", 8, house.loses(0));
        house.setValve(0, false);
        CHECKS.same("shut", 8, house.loses(0));
        CHECKS.refuses("pipe 9", Checks.INDEX, () -> house.loses(9));
        CHECKS.refuses("pipe -1", Checks.INDEX, () -> house.loses(-1));
    }

    private static void strengthByBranches() {
        MouthpieceRow house = Houses.row(3);
        CHECKS.same("own room", 40, house.strength(1, 1));
        CHECKS.same("along a row", 38, house.strength(0, 2));
        CHECKS.same("one other pipe where it begins", 38, house.strength(1, 2));
        int side = house.addRoom(0, 9, false);
        house.addPipe(1, side, 4, 0, 0);
        CHECKS.same("one branch on the way", 37, house.strength(0, 2));
        CHECKS.same("two other pipes where it begins", 37, house.strength(1, 2));
        CHECKS.same("branches where it ends count nothing", 39, house.strength(0, 1));
        CHECKS.same("a room without mouthpiece", 37, house.strength(0, side));
        house.setValve(2, false);
        CHECKS.same("a shut branch counts nothing", 38, house.strength(0, 2));
        house.clog(0, 39);
        CHECKS.same("all lost", 0, house.strength(0, 1));
        CHECKS.same("all lost behind, too", 0, house.strength(0, 2));
        house.clog(0, 38);
        CHECKS.same("one left", 1, house.strength(0, 1));
        CHECKS.refuses("from 4", Checks.INDEX, () -> house.strength(4, 0));
        CHECKS.refuses("to 4", Checks.INDEX, () -> house.strength(0, 4));
        CHECKS.refuses("from -1", Checks.INDEX, () -> house.strength(-1, 0));
        CHECKS.refuses("to -1", Checks.INDEX, () -> house.strength(0, -1));
    }

    private static void strengthByBestWay() {
        MouthpieceRow house = Houses.row(4);
        house.addPipe(0, 3, 40, 9, 0);
        CHECKS.same("round about", 36, house.strength(0, 3));
        CHECKS.same("three pipes", 3, house.wayLength(0, 3));
        house.clog(1, 40);
        CHECKS.same("straight", 11, house.strength(0, 3));
        CHECKS.same("one pipe", 1, house.wayLength(0, 3));
        MouthpieceRow longest = Houses.row(10);
        CHECKS.same("nine pipes", 31, longest.strength(0, 9));
    }

    private static void heard() {
        MouthpieceRow house = Houses.row(2);
        house.setNoise(1, 9);
        CHECKS.same("less the noise", 30, house.heard(0, 1));
        CHECKS.same("the noise of where it begins is nothing", 39, house.heard(1, 0));
        CHECKS.same("in the own room", 31, house.heard(1, 1));
        house.clog(0, 31);
        CHECKS.same("below the noise", 0, house.heard(0, 1));
        house.clog(0, 30);
        CHECKS.same("like the noise", 0, house.heard(0, 1));
        house.clog(0, 29);
        CHECKS.same("above the noise", 1, house.heard(0, 1));
        house.setValve(0, false);
        CHECKS.same("shut", 0, house.heard(0, 1));
        CHECKS.refuses("from 2", Checks.INDEX, () -> house.heard(2, 0));
        CHECKS.refuses("to 2", Checks.INDEX, () -> house.heard(0, 2));
        CHECKS.refuses("to -1", Checks.INDEX, () -> house.heard(0, -1));
    }

    private static void wayLength() {
        MouthpieceRow house = Houses.row(3);
        CHECKS.same("own room", 0, house.wayLength(1, 1));
        CHECKS.same("two pipes", 2, house.wayLength(0, 2));
        CHECKS.same("two pipes back", 2, house.wayLength(2, 0));
        house.setNoise(2, 9);
        house.clog(1, 37);
        CHECKS.same("not heard, but it comes", 2, house.wayLength(0, 2));
        house.clog(1, 38);
        CHECKS.refuses("too weak", Checks.MISSING, () -> house.wayLength(0, 2));
        house.setValve(1, false);
        CHECKS.refuses("shut", Checks.MISSING, () -> house.wayLength(0, 2));
        CHECKS.refuses("from 3", Checks.INDEX, () -> house.wayLength(3, 0));
        CHECKS.refuses("to 3", Checks.INDEX, () -> house.wayLength(0, 3));
    }

    private static void wayAt() {
        MouthpieceRow house = Houses.row(10);
        for (int i = 0; i < 9; i++) {
            CHECKS.same("pipe there", i, house.wayAt(0, 9, i));
            CHECKS.same("pipe back", 8 - i, house.wayAt(9, 0, i));
        }
        CHECKS.refuses("index 9", Checks.MISSING, () -> house.wayAt(0, 9, 9));
        CHECKS.refuses("index -1", Checks.MISSING, () -> house.wayAt(0, 9, -1));
        CHECKS.refuses("own room", Checks.MISSING, () -> house.wayAt(0, 0, 0));
        house.setValve(4, false);
        CHECKS.refuses("shut", Checks.MISSING, () -> house.wayAt(0, 9, 0));
        CHECKS.refuses("from 10", Checks.INDEX, () -> house.wayAt(10, 0, 0));
        CHECKS.refuses("to 10", Checks.INDEX, () -> house.wayAt(0, 10, 0));
    }

    private static void lowerPipeFirst() {
        MouthpieceRow house = Houses.apart(4);
        house.addPipe(2, 3, 4, 0, 0);
        house.addPipe(0, 1, 4, 0, 0);
        house.addPipe(0, 2, 4, 0, 0);
        house.addPipe(1, 3, 4, 0, 0);
        CHECKS.same("like ways", 37, house.strength(0, 3));
        CHECKS.same("the first pipe decides, there", 1, house.wayAt(0, 3, 0));
        CHECKS.same("the second follows", 3, house.wayAt(0, 3, 1));
        CHECKS.same("the first pipe decides, back", 0, house.wayAt(3, 0, 0));
        MouthpieceRow twins = Houses.apart(3);
        twins.addPipe(1, 2, 4, 1, 0);
        twins.addPipe(0, 1, 4, 0, 0);
        twins.addPipe(2, 1, 4, 0, 2);
        twins.addPipe(1, 2, 12, 0, 0);
        CHECKS.same("of like twins the lower", 0, twins.wayAt(0, 2, 1));
        twins.clog(0, 1);
        CHECKS.same("the next one", 2, twins.wayAt(0, 2, 1));
        MouthpieceRow uneven = Houses.apart(3);
        uneven.addPipe(0, 1, 4, 0, 0);
        uneven.addPipe(0, 2, 8, 0, 0);
        uneven.addPipe(1, 2, 4, 0, 0);
        CHECKS.same("like ways of unlike length", 37, uneven.strength(0, 2));
        CHECKS.same("the longer one with the lower pipe", 2, uneven.wayLength(0, 2));
        uneven.addPipe(2, 0, 4, 0, 0);
        CHECKS.same("a stronger one", 3, uneven.wayAt(0, 2, 0));
    }
}
