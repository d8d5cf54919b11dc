import java.util.ArrayList;
import java.util.List;

/**
 * What the face tells of a house, line by line. Some of it is told by calls that change the house, so it is
 * asked of a house that nobody needs afterwards; and since a house answers 512 calls, it ends at MOST_CALLS.
 */
final class Portrait {
    private static final int MOST_CALLS = 230;
    /** So many calls are left for orders and for what is typed. */
    private static final int KEPT_BACK = 20;

    private final MouthpieceRow house;
    private final List<String> lines = new ArrayList<>();
    private int asked;

    private Portrait(MouthpieceRow house) {
        this.house = house;
    }

    static List<String> of(MouthpieceRow house) {
        Portrait portrait = new Portrait(house);
        portrait.sums();
        int rooms = portrait.count("bill", house::bill);
        int pipes = portrait.count("loses", house::loses);
        int people = portrait.count("depth", house::depth);
        portrait.count("isOn", house::isOn);
        int messages = portrait.count("fate", house::fate);
        portrait.settings(rooms, pipes);
        for (int i = 0; i < people; i++) {
            int person = i;
            portrait.ask("knowsAlarm " + i, () -> house.knowsAlarm(person));
        }
        portrait.knowledge(people, messages);
        portrait.typed(people, rooms);
        if (portrait.asked > MOST_CALLS) {
            throw new AssertionError(portrait.asked + " calls for one portrait");
        }
        return portrait.lines;
    }

    private String ask(String what, Checks.Asked asked) {
        this.asked++;
        String answer;
        try {
            answer = String.valueOf(asked.answer());
        } catch (RuntimeException e) {
            answer = e.getClass().getSimpleName();
        }
        lines.add(what + ": " + answer);
        return answer;
    }

    private void sums() {
        ask("checksum", house::checksum);
        ask("interrupted", house::interrupted);
        ask("unanswered", house::unanswered);
        ask("rightShare", house::rightShare);
        ask("meanHeard", house::meanHeard);
        ask("isSound", house::isSound);
    }

    private interface Numbered {
        Object answer(int number);
    }

    private int count(String what, Numbered asked) {
        int count = 0;
        while (true) {
            int number = count;
            if (ask(what + " " + number, () -> asked.answer(number)).equals("IndexOutOfBoundsException")) {
                return count;
            }
            count++;
        }
    }

    /** The setters answer what was before. All lines become 0, for the telephone in typed(). */
    private void settings(int rooms, int pipes) {
        ask("code", () -> house.setCode(false));
        for (int i = 0; i < rooms; i++) {
            int room = i;
            ask("noise of " + i, () -> house.setNoise(room, 0));
            ask("line of " + i, () -> house.setLine(room, 0));
        }
        for (int i = 0; i < pipes; i++) {
            int pipe = i;
            ask("valve of " + i, () -> house.setValve(pipe, true));
            ask("clog of " + i, () -> house.clog(pipe, 0));
        }
    }

    private void knowledge(int people, int messages) {
        for (int i = 0; i < messages; i++) {
            for (int j = 0; j < people; j++) {
                int message = i;
                int person = j;
                String whom = " of person " + j + ", message " + i;
                for (int place = 0; asked + 5 + KEPT_BACK < MOST_CALLS && place < 4; place++) {
                    int at = place;
                    ask("letter " + place + whom, () -> house.letterAt(person, message, at));
                }
                if (asked + 4 + KEPT_BACK < MOST_CALLS) {
                    ask("fits" + whom, () -> house.fits(person, message));
                    ask("source" + whom, () -> house.source(person, message));
                    ask("chain" + whom, () -> house.chain(person, message));
                    ask("toldAt" + whom, () -> house.toldAt(person, message));
                }
            }
        }
    }

    /** What is typed is said by telephone, so that its author tells the letters. */
    private void typed(int people, int rooms) {
        String message = "";
        for (int i = 0; i < people * rooms && asked + 17 < MOST_CALLS && !isOver(message); i++) {
            int person = i / rooms;
            int room = i % rooms;
            message = ask("phoneSay " + person + " " + room, () -> house.phoneSay(person, room));
            if (isNumber(message)) {
                int number = Integer.parseInt(message);
                for (int place = 0; place < 13; place++) {
                    int at = place;
                    ask("typed " + place, () -> house.letterAt(person, number, at));
                }
            }
        }
        ask("wipe", house::wipe);
        ask("type", () -> house.type('q'));
        ask("order", house::addOrder);
    }

    private static boolean isOver(String message) {
        return isNumber(message) || message.equals("IllegalStateException");
    }

    private static boolean isNumber(String message) {
        return !message.isEmpty() && Character.isDigit(message.charAt(0));
    }
}
