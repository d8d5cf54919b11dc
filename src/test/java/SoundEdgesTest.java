/** Where sound just comes, or just does not; which way it takes of like ones; the least and the most of a pipe. */
public final class SoundEdgesTest {
    private static final Checks CHECKS = new Checks("SoundEdgesTest");

    public static void main(String[] args) {
        lossOfEachLength();
        leastAndMostLoss();
        eachPartOfALoss();
        lastStrengthThatComes();
        lostOnTheWay();
        ownRoom();
        branchesWhereItBegins();
        branchesOnTheWay();
        branchesToPassedRooms();
        branchesAtTheEnd();
        heardAboveEachNoise();
        noiseOnTheWay();
        roomsWithoutMouthpiece();
        longestWay();
        noRoomTwice();
        lowerPipeAtTheFirstPlace();
        lowerPipeAtTheLastPlace();
        lowerPipeAtAMiddlePlace();
        lowerPipeAtTheNinthPlace();
        likeWaysOfUnlikeLength();
        pipesOfTwoDigits();
        strongestBeforeLowest();
        emptyHouse();
        CHECKS.end();
    }

    private static void lossOfEachLength() {
        for (int length = 1; length <= 40; length++) {
            MouthpieceRow house = Houses.apart(2);
            house.addPipe(0, 1, length, 0, 0);
            int due = (int) Math.ceil(length / 4.0);
            CHECKS.same("loss of length " + length, due, house.loses(0));
            CHECKS.same("strength over length " + length, 40 - due, house.strength(0, 1));
        }
    }

    private static void leastAndMostLoss() {
        MouthpieceRow house = Houses.apart(2);
        house.addPipe(0, 1, 1, 0, 0);
        CHECKS.same("the least", 1, house.loses(0));
        house.addPipe(1, 0, 40, 9, 9);
        CHECKS.same("the most without a clog", 37, house.loses(1));
        house.clog(1, 40);
        CHECKS.same("the most", 77, house.loses(1));
        CHECKS.same("the clog before", 40, house.clog(1, 0));
        CHECKS.same("without the clog again", 37, house.loses(1));
    }

    private static void eachPartOfALoss() {
        for (int part = 0; part <= 9; part++) {
            MouthpieceRow house = Houses.apart(2);
            house.addPipe(0, 1, 1, part, 0);
            house.addPipe(0, 1, 1, 0, part);
            CHECKS.same("bends " + part, 1 + 2 * part, house.loses(0));
            CHECKS.same("leak " + part, 1 + part, house.loses(1));
        }
        for (int clog = 0; clog <= 40; clog++) {
            MouthpieceRow house = Houses.row(2);
            house.clog(0, clog);
            CHECKS.same("clog " + clog, 1 + clog, house.loses(0));
        }
    }

    private static void lastStrengthThatComes() {
        int[] clogs = {37, 38, 39, 40};
        int[] strengths = {2, 1, 0, 0};
        for (int i = 0; i < clogs.length; i++) {
            MouthpieceRow house = Houses.row(2);
            house.clog(0, clogs[i]);
            CHECKS.same("strength with a clog of " + clogs[i], strengths[i], house.strength(0, 1));
            CHECKS.same("heard with a clog of " + clogs[i], strengths[i], house.heard(0, 1));
            if (strengths[i] > 0) {
                CHECKS.same("it comes", 1, house.wayLength(0, 1));
                CHECKS.same("by the pipe", 0, house.wayAt(0, 1, 0));
            } else {
                CHECKS.refuses("it does not come", Checks.MISSING, () -> house.wayLength(0, 1));
                CHECKS.refuses("by no pipe", Checks.MISSING, () -> house.wayAt(0, 1, 0));
            }
        }
    }

    /** What is lost altogether counts, wherever on the way it is lost. */
    private static void lostOnTheWay() {
        for (int pipe = 0; pipe < 3; pipe++) {
            MouthpieceRow house = Houses.row(4);
            house.clog(pipe, 36);
            CHECKS.same("just there", 1, house.strength(0, 3));
            house.clog(pipe, 37);
            CHECKS.same("just not there", 0, house.strength(0, 3));
            house.clog(pipe, 0);
            house.setValve(pipe, false);
            CHECKS.same("shut", 0, house.strength(0, 3));
            CHECKS.same("before the shut pipe", 40 - pipe, house.strength(0, pipe));
            CHECKS.same("behind the shut pipe", 0, house.strength(0, pipe + 1));
        }
    }

    private static void ownRoom() {
        MouthpieceRow house = star(16);
        house.setNoise(0, 9);
        CHECKS.same("with 16 pipes", 40, house.strength(0, 0));
        CHECKS.same("less the noise", 31, house.heard(0, 0));
        CHECKS.same("by no pipe", 0, house.wayLength(0, 0));
        house.setNoise(0, 0);
        CHECKS.same("without noise", 40, house.heard(0, 0));
        MouthpieceRow alone = new MouthpieceRow();
        alone.addRoom(0, 0, false);
        CHECKS.same("alone, without a mouthpiece", 40, alone.strength(0, 0));
    }

    /** Pipes that lose 1 from room 0 to the rooms 1 to 9 and, as there are more pipes, again. */
    private static MouthpieceRow star(int pipes) {
        MouthpieceRow house = Houses.apart(10);
        for (int i = 0; i < pipes; i++) {
            house.addPipe(0, 1 + i % 9, 4, 0, 0);
        }
        return house;
    }

    private static void branchesWhereItBegins() {
        for (int pipes = 1; pipes <= 16; pipes++) {
            MouthpieceRow house = star(pipes);
            CHECKS.same("one of " + pipes, 40 - pipes, house.strength(0, 1));
            house.setValve(pipes - 1, false);
            CHECKS.same("one of " + pipes + " is shut", pipes == 1 ? 0 : 41 - pipes, house.strength(0, 1));
        }
    }

    private static void branchesOnTheWay() {
        for (int pipes = 2; pipes <= 9; pipes++) {
            MouthpieceRow house = star(pipes);
            CHECKS.same("through the middle of " + pipes, 40 - pipes, house.strength(1, 2));
        }
        MouthpieceRow house = Houses.row(4);
        CHECKS.same("no branch", 37, house.strength(0, 3));
        house.addPipe(1, house.addRoom(0, 0, true), 4, 0, 0);
        CHECKS.same("a branch at the first room that is passed", 36, house.strength(0, 3));
        house.addPipe(2, house.addRoom(0, 0, true), 4, 0, 0);
        CHECKS.same("a branch at the last room that is passed", 35, house.strength(0, 3));
        CHECKS.same("a branch where it ends", 39, house.strength(3, 2));
    }

    /** A pipe that leads back, or beside the one that is taken, is a branch too. */
    private static void branchesToPassedRooms() {
        MouthpieceRow house = Houses.row(3);
        house.addPipe(0, 1, 40, 9, 9);
        CHECKS.same("beside the first pipe: one where it begins, one where it passes", 36, house.strength(0, 2));
        CHECKS.same("beside the last pipe: one where it passes", 37, house.strength(2, 0));
        house.setValve(2, false);
        CHECKS.same("shut", 38, house.strength(0, 2));
        house.addPipe(2, 0, 40, 9, 9);
        CHECKS.same("a ring", 37, house.strength(0, 2));
    }

    private static void branchesAtTheEnd() {
        MouthpieceRow house = Houses.row(2);
        for (int i = 0; i < 8; i++) {
            house.addPipe(1, house.addRoom(0, 0, true), 4, 0, 0);
            CHECKS.same("branches at the end", 39, house.strength(0, 1));
            CHECKS.same("the same where it begins", 38 - i, house.strength(1, 0));
        }
    }

    private static void heardAboveEachNoise() {
        for (int noise = 0; noise <= 9; noise++) {
            MouthpieceRow house = Houses.row(2);
            house.setNoise(1, noise);
            CHECKS.same("in the own room", 40 - noise, house.heard(1, 1));
            CHECKS.same("beside", 39 - noise, house.heard(0, 1));
            house.clog(0, 38 - noise);
            CHECKS.same("1 above noise " + noise, 1, house.heard(0, 1));
            house.clog(0, 39 - noise);
            CHECKS.same("like noise " + noise, 0, house.heard(0, 1));
            CHECKS.same("the strength is not less", noise, house.strength(0, 1));
            house.clog(0, 40 - noise);
            CHECKS.same("1 below noise " + noise, 0, house.heard(0, 1));
        }
    }

    private static void noiseOnTheWay() {
        MouthpieceRow house = Houses.row(3);
        house.setNoise(0, 9);
        house.setNoise(1, 9);
        CHECKS.same("noise where it begins and passes", 38, house.heard(0, 2));
        house.setNoise(2, 1);
        CHECKS.same("noise where it ends", 37, house.heard(0, 2));
    }

    private static void roomsWithoutMouthpiece() {
        MouthpieceRow house = new MouthpieceRow();
        for (int i = 0; i < 3; i++) {
            house.addRoom(i, 0, false);
        }
        house.addPipe(0, 1, 4, 0, 0);
        house.addPipe(1, 2, 4, 0, 0);
        CHECKS.same("strength", 38, house.strength(0, 2));
        CHECKS.same("heard", 38, house.heard(0, 2));
        CHECKS.same("pipes", 2, house.wayLength(0, 2));
    }

    private static void longestWay() {
        MouthpieceRow house = Houses.row(10);
        CHECKS.same("nine pipes", 9, house.wayLength(0, 9));
        CHECKS.same("nine pipes back", 9, house.wayLength(9, 0));
        CHECKS.same("the first", 0, house.wayAt(0, 9, 0));
        CHECKS.same("the last", 8, house.wayAt(0, 9, 8));
        CHECKS.refuses("one more", Checks.MISSING, () -> house.wayAt(0, 9, 9));
        house.clog(4, 30);
        CHECKS.same("just there", 1, house.strength(0, 9));
        house.clog(4, 31);
        CHECKS.same("just not there", 0, house.strength(0, 9));
        CHECKS.same("one room before", 1, house.strength(0, 8));
    }

    /** A ring of three rooms leads back to where it begins, which is no way. */
    private static void noRoomTwice() {
        MouthpieceRow house = Houses.row(3);
        house.addPipe(0, 2, 4, 0, 0);
        CHECKS.same("round a ring to the own room", 0, house.wayLength(0, 0));
        CHECKS.same("the ring's short side", 1, house.wayLength(0, 2));
        house.setValve(2, false);
        CHECKS.same("the ring's long side", 2, house.wayLength(0, 2));
        house.setValve(0, false);
        CHECKS.refuses("neither", Checks.MISSING, () -> house.wayLength(0, 2));
    }

    /** From room 0 over room 1 by the pipes 2 and 3, or over room 2 by the pipes 1 and 4. */
    private static void lowerPipeAtTheFirstPlace() {
        MouthpieceRow house = Houses.apart(5);
        house.addPipe(3, 4, 4, 0, 0);
        house.addPipe(0, 2, 4, 0, 0);
        house.addPipe(0, 1, 4, 0, 0);
        house.addPipe(1, 3, 4, 0, 0);
        house.addPipe(2, 3, 4, 0, 0);
        CHECKS.same("lower at the first, higher at the second", "14", way(house, 0, 3));
        CHECKS.same("back, the last ones decide", "32", way(house, 3, 0));
        CHECKS.same("and so it goes on", "140", way(house, 0, 4));
        house.clog(4, 1);
        CHECKS.same("the other one is stronger by 1", "23", way(house, 0, 3));
        house.clog(3, 1);
        CHECKS.same("like ones again", "14", way(house, 0, 3));
    }

    private static String way(MouthpieceRow house, int from, int to) {
        StringBuilder pipes = new StringBuilder();
        for (int i = 0; i < house.wayLength(from, to); i++) {
            pipes.append(Integer.toHexString(house.wayAt(from, to, i)));
        }
        return pipes.toString();
    }

    private static void lowerPipeAtTheLastPlace() {
        MouthpieceRow house = Houses.apart(3);
        house.addPipe(0, 1, 4, 0, 0);
        for (int i = 0; i < 3; i++) {
            house.addPipe(i == 1 ? 2 : 1, i == 1 ? 1 : 2, 4, 0, 0);
        }
        CHECKS.same("the lowest of three", "01", way(house, 0, 2));
        house.setValve(1, false);
        CHECKS.same("the lowest of two", "02", way(house, 0, 2));
        house.setValve(2, false);
        CHECKS.same("the only one", "03", way(house, 0, 2));
        house.setValve(1, true);
        CHECKS.same("the first one again", "01", way(house, 0, 2));
    }

    private static void lowerPipeAtAMiddlePlace() {
        MouthpieceRow house = Houses.apart(4);
        house.addPipe(2, 3, 4, 0, 0);
        house.addPipe(1, 2, 4, 0, 0);
        house.addPipe(2, 1, 4, 0, 0);
        house.addPipe(0, 1, 4, 0, 0);
        CHECKS.same("there", "310", way(house, 0, 3));
        CHECKS.same("back", "013", way(house, 3, 0));
        house.clog(1, 1);
        CHECKS.same("there, by the stronger", "320", way(house, 0, 3));
        CHECKS.same("back, by the stronger", "023", way(house, 3, 0));
    }

    /** Of nine pipes the last one is 7 or 8, then 14 or 15. */
    private static void lowerPipeAtTheNinthPlace() {
        MouthpieceRow house = Houses.row(8);
        house.addRoom(0, 0, true);
        house.addRoom(0, 0, true);
        house.addPipe(8, 9, 4, 0, 0);
        house.addPipe(9, 8, 4, 0, 0);
        house.addPipe(7, 8, 4, 0, 0);
        CHECKS.same("7 before 8", "012345697", way(house, 0, 9));
        CHECKS.same("7 before 8, back", "796543210", way(house, 9, 0));
        house.setValve(7, false);
        house.setValve(8, false);
        for (int i = 10; i < 16; i++) {
            house.addPipe(8, 9, 4, 0, i < 14 ? 9 : 0);
        }
        CHECKS.same("14 before 15", "01234569e", way(house, 0, 9));
        house.clog(14, 1);
        CHECKS.same("the last pipe", "01234569f", way(house, 0, 9));
    }

    private static void likeWaysOfUnlikeLength() {
        MouthpieceRow house = Houses.apart(4);
        house.addPipe(0, 1, 4, 0, 0);
        house.addPipe(0, 3, 12, 0, 0);
        house.addPipe(1, 2, 4, 0, 0);
        house.addPipe(2, 3, 4, 0, 0);
        CHECKS.same("three pipes, the first one lower", "023", way(house, 0, 3));
        CHECKS.same("one pipe, the first one lower", "1", way(house, 3, 0));
        CHECKS.same("both are like", house.strength(3, 0), house.strength(0, 3));
    }

    /** Pipe 9 is lower than pipe 10, and pipe 15 the highest. */
    private static void pipesOfTwoDigits() {
        MouthpieceRow house = Houses.apart(3);
        for (int i = 0; i < 9; i++) {
            house.addPipe(1, 2, 4, 0, 0);
            house.setValve(i, false);
        }
        for (int i = 9; i < 16; i++) {
            house.addPipe(0, 1, 4, 0, 0);
        }
        for (int i = 9; i < 15; i++) {
            CHECKS.same("the lowest that is open", i, house.wayAt(0, 1, 0));
            CHECKS.same("the lowest that is open, back", i, house.wayAt(1, 0, 0));
            house.setValve(i, false);
        }
        CHECKS.same("the last pipe", 15, house.wayAt(0, 1, 0));
        house.setValve(15, false);
        CHECKS.refuses("none", Checks.MISSING, () -> house.wayAt(0, 1, 0));
        house.setValve(8, true);
        house.setValve(9, true);
        CHECKS.same("over 9 and 8", "98", way(house, 0, 2));
    }

    private static void strongestBeforeLowest() {
        MouthpieceRow house = Houses.apart(2);
        for (int i = 0; i < 16; i++) {
            house.addPipe(0, 1, 4, 0, i < 8 ? 9 - i : i - 6);
        }
        CHECKS.same("leaks of 2 at 7 and 8", 7, house.wayAt(0, 1, 0));
        house.clog(7, 1);
        CHECKS.same("the stronger one", 8, house.wayAt(0, 1, 0));
        house.clog(8, 1);
        CHECKS.same("leaks of 3 at 6, 7, 8 and 9", 6, house.wayAt(0, 1, 0));
        CHECKS.same("strength by 15 branches", 40 - 15 - 4, house.strength(0, 1));
    }

    private static void emptyHouse() {
        MouthpieceRow house = new MouthpieceRow();
        CHECKS.refuses("strength", Checks.INDEX, () -> house.strength(0, 0));
        CHECKS.refuses("heard", Checks.INDEX, () -> house.heard(0, 0));
        CHECKS.refuses("wayLength", Checks.INDEX, () -> house.wayLength(0, 0));
        CHECKS.refuses("wayAt", Checks.INDEX, () -> house.wayAt(0, 0, 0));
        CHECKS.refuses("a pipe", Checks.INDEX, () -> house.addPipe(0, 0, 0, -1, -1));
        house.addRoom(0, 0, true);
        CHECKS.refuses("a pipe from the only room", Checks.INDEX, () -> house.addPipe(0, 1, 1, 0, 0));
        CHECKS.refuses("a pipe to the only room", Checks.INDEX, () -> house.addPipe(1, 0, 1, 0, 0));
        CHECKS.refuses("a pipe in the only room", Checks.ARGUMENT, () -> house.addPipe(0, 0, 1, 0, 0));
    }
}
