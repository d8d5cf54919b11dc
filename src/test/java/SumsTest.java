import java.lang.reflect.Field;
import java.util.List;

/** Promises 47 to 50: sums over all. */
public final class SumsTest {
    private static final Checks CHECKS = new Checks("SumsTest");

    public static void main(String[] args) throws Exception {
        checksum();
        rightShare();
        meanHeard();
        isSound();
        if (hasKnownLayout()) {
            callsUnsound();
            moreCallsUnsound();
            sourcesUnsound();
        } else {
            System.out.println("SumsTest: the state is held in another way, so no unsound house was made");
        }
        CHECKS.end();
    }

    /** How the state is held is free; what is forced below fits the class that has Knowledge inside. */
    private static boolean hasKnownLayout() {
        for (Class<?> inner : MouthpieceRow.class.getDeclaredClasses()) {
            if (inner.getSimpleName().equals("Knowledge")) {
                return true;
            }
        }
        return false;
    }

    private static void checksum() {
        MouthpieceRow house = new MouthpieceRow();
        CHECKS.same("nothing", 7L * 31, house.checksum());
        house.pass(5);
        CHECKS.same("a minute", 7L * 31 + 5, house.checksum());
        house.addRoom(0, 0, true);
        house.addRoom(0, 0, true);
        house.addPipe(0, 1, 4, 0, 0);
        CHECKS.same("rooms", fold(0, 0, 5), house.checksum());
        house.addPerson(1, 3);
        house.addPerson(0, 4);
        house.sleep(0, 6);
        CHECKS.same("people", fold(1, 6, 0, 0, 0, 0, 5), house.checksum());
        house.call(1, 1);
        CHECKS.same("a call", fold(1, 6, 0, 0, 1, 3, 0, 5), house.checksum());
        Houses.say(house, 0, "cat");
        CHECKS.same("a message", fold(1, 6, 0, 0, 0, 3, 1, 3, 0, 5), house.checksum());
        house.sleep(0, 0);
        house.clog(0, 34);
        house.tellOn(0, 0);
        house.hang(0);
        CHECKS.same("a letter, a call that ended", fold(1, 0, 0, 0, 1, 3, 0, 3, 0, 5), house.checksum());
        long sum = fold(1, 0, 0, 0);
        for (int i = 0; i < 8; i++) {
            house.addPerson(1, 0);
            sum = 31 * (31 * sum + 1);
        }
        sum = 31 * (31 * sum + 1) + 3;
        for (int i = 0; i < 8; i++) {
            sum = 31 * sum;
        }
        long[] rest = {0, 3, 0, 5};
        for (long number : rest) {
            sum = 31 * sum + number;
        }
        CHECKS.same("it goes round", sum, house.checksum());
    }

    private static long fold(long... numbers) {
        long sum = 7;
        for (long number : numbers) {
            sum = 31 * sum + number;
        }
        return sum;
    }

    private static void rightShare() {
        MouthpieceRow house = Houses.peopled(2);
        CHECKS.refuses("no messages", Checks.MISSING, house::rightShare);
        house.call(0, 1);
        Houses.say(house, 0, "a");
        CHECKS.same("none done", 0.0f, house.rightShare());
        house.doIt(1, 0);
        CHECKS.same("one of one", 1.0f, house.rightShare());
        Houses.say(house, 0, "a");
        Houses.say(house, 0, "a");
        CHECKS.same("one of three", 1.0f / 3.0f, house.rightShare());
        house.clog(0, 35);
        Houses.say(house, 0, "cat");
        Houses.order(house, "ham");
        house.doIt(1, 3);
        CHECKS.same("done wrongly counts nothing", 0.25f, house.rightShare());
    }

    private static void meanHeard() {
        MouthpieceRow house = new MouthpieceRow();
        CHECKS.refuses("no room", Checks.MISSING, house::meanHeard);
        house.addRoom(0, 0, true);
        house.addRoom(0, 0, false);
        CHECKS.refuses("one with a mouthpiece", Checks.MISSING, house::meanHeard);
        house.addRoom(0, 9, true);
        CHECKS.same("no pipes", 0.0, house.meanHeard());
        house.addPipe(0, 1, 4, 0, 0);
        house.addPipe(1, 2, 4, 0, 0);
        CHECKS.same("29 and 38", 33.5, house.meanHeard());
        house.addRoom(0, 0, true);
        CHECKS.same("of six pairs", 67.0 / 6.0, house.meanHeard());
        house.setValve(0, false);
        CHECKS.same("of none", 0.0, house.meanHeard());
    }

    private static void isSound() {
        MouthpieceRow house = Houses.peopled(3);
        CHECKS.same("at first", true, house.isSound());
        house.call(0, 1);
        house.call(1, 2);
        Houses.say(house, 0, "tea");
        house.pass(4);
        house.tellOn(1, 0);
        CHECKS.same("with two calls and a message", true, house.isSound());
        house.setValve(0, false);
        CHECKS.same("with a shut pipe that no call has", true, house.isSound());
    }

    /** The face leads to no unsound house, so one is made by force. */
    private static void callsUnsound() throws Exception {
        MouthpieceRow house = Houses.peopled(3);
        house.call(0, 1);
        house.call(1, 2);
        Object caller = list(house, "people").get(1);
        force(caller, "depth", 3);
        CHECKS.same("a caller who sleeps", false, house.isSound());
        house.hang(1);
        CHECKS.same("who has called may sleep", true, house.isSound());
        force(caller, "depth", 0);
        Object first = list(house, "calls").get(0);
        house.setValve(0, false);
        CHECKS.same("the call ended", true, house.isSound());
        force(first, "isOn", true);
        CHECKS.same("a call over a shut pipe", false, house.isSound());
        house.setValve(0, false);
        house.setValve(0, true);
        house.call(0, 2);
        CHECKS.same("one call over both pipes", true, house.isSound());
        force(first, "isOn", true);
        CHECKS.same("a pipe in two calls", false, house.isSound());
    }

    private static void moreCallsUnsound() throws Exception {
        MouthpieceRow house = Houses.peopled(4);
        house.call(0, 1);
        house.call(1, 2);
        house.setValve(0, false);
        house.setValve(1, false);
        Object first = list(house, "calls").get(0);
        force(first, "isOn", true);
        CHECKS.same("over the first of two shut pipes", false, house.isSound());
        force(first, "isOn", false);
        house.setValve(0, true);
        house.setValve(1, true);
        house.call(0, 1);
        house.call(1, 2);
        CHECKS.same("two calls beside each other", true, house.isSound());
        house.hang(3);
        force(list(house, "calls").get(1), "isOn", true);
        CHECKS.same("still beside each other", true, house.isSound());
        force(first, "isOn", true);
        CHECKS.same("the first and the last over one pipe", false, house.isSound());
    }

    private static void sourcesUnsound() throws Exception {
        MouthpieceRow house = Houses.peopled(3);
        house.sleep(2, 9);
        house.pass(5);
        house.call(0, 1);
        Houses.say(house, 0, "a");
        Object message = list(house, "messages").get(0);
        Object[] knowledge = (Object[]) field(message, "knowledge").get(message);
        CHECKS.same("as it was said", true, house.isSound());
        force(knowledge[1], "since", 4);
        CHECKS.same("known before its source knew", false, house.isSound());
        force(knowledge[1], "since", 6);
        CHECKS.same("known after its source knew", true, house.isSound());
        Object author = field(knowledge[1], "source").get(knowledge[1]);
        force(knowledge[1], "source", null);
        CHECKS.same("known without a source", false, house.isSound());
        force(knowledge[1], "source", list(house, "people").get(2));
        CHECKS.same("from somebody who knows nothing", false, house.isSound());
        force(knowledge[1], "source", author);
        CHECKS.same("mended", true, house.isSound());
        house.hang(0);
        house.call(1, 0);
        Houses.say(house, 1, "a");
        CHECKS.same("from the second to the first", true, house.isSound());
        Object other = list(house, "messages").get(1);
        force(((Object[]) field(other, "knowledge").get(other))[0], "source", null);
        CHECKS.same("the first without a source", false, house.isSound());
    }

    private static List<?> list(MouthpieceRow house, String name) throws Exception {
        return (List<?>) field(house, name).get(house);
    }

    private static Field field(Object owner, String name) throws Exception {
        Field field = owner.getClass().getDeclaredField(name);
        field.setAccessible(true);
        return field;
    }

    private static void force(Object owner, String name, Object value) throws Exception {
        field(owner, name).set(owner, value);
    }
}
