/**
 * How many there may be of each: the last one is there, one more is refused, and so is what would be refused in a
 * house that is not full, ahead of that. A refused call changes nothing.
 */
public final class LimitsTest {
    private static final Checks CHECKS = new Checks("LimitsTest");
    private static final Refusals FULL = new Refusals(CHECKS, "full", Houses::full);

    public static void main(String[] args) {
        rooms();
        pipes();
        people();
        peopleOfAFullHouse();
        callsAtOnce();
        callsAtOnceThatEnd();
        callsInAll();
        callsRefusedBeforeLimits();
        letters();
        orders();
        ordersRefusedBeforeTheLimit();
        messages();
        messagesByTelephone();
        messagesRefusedBeforeTheLimit();
        minutes();
        fullHouseGoesOn();
        CHECKS.end();
    }

    private static void rooms() {
        Refusals nine = new Refusals(CHECKS, "9 rooms", () -> Houses.apart(9));
        nine.refuse("a wrong floor", Checks.ARGUMENT, house -> house.addRoom(6, 0, true));
        MouthpieceRow house = Houses.apart(9);
        CHECKS.same("the 10th room", 9, house.addRoom(5, 9, true));
        CHECKS.same("the last room", 0, house.bill(9));
        for (boolean hasMouthpiece : new boolean[] {false, true}) {
            FULL.refuse("an 11th room", Checks.STATE, full -> full.addRoom(0, 0, hasMouthpiece));
        }
        FULL.refuse("an 11th room, last numbers", Checks.STATE, full -> full.addRoom(5, 9, true));
        FULL.refuse("an 11th room, wrong noise", Checks.ARGUMENT, full -> full.addRoom(5, 10, true));
    }

    private static void pipes() {
        MouthpieceRow house = Houses.apart(2);
        for (int i = 0; i < 16; i++) {
            CHECKS.same("pipe", i, house.addPipe(i % 2, 1 - i % 2, 40, 9, 9));
        }
        CHECKS.same("the last pipe", 37, house.loses(15));
        FULL.refuse("a 17th pipe", Checks.STATE, full -> full.addPipe(0, 1, 1, 0, 0));
        FULL.refuse("a 17th pipe, last numbers", Checks.STATE, full -> full.addPipe(9, 0, 40, 9, 9));
        FULL.refuse("a 17th pipe, in one room", Checks.ARGUMENT, full -> full.addPipe(9, 9, 1, 0, 0));
        FULL.refuse("a 17th pipe, no length", Checks.ARGUMENT, full -> full.addPipe(0, 1, 0, 0, 0));
        FULL.refuse("a 17th pipe, no such room twice", Checks.INDEX, full -> full.addPipe(10, 10, 0, 0, 0));
    }

    private static void people() {
        MouthpieceRow house = Houses.row(1);
        for (int i = 0; i < 10; i++) {
            CHECKS.same("person", i, house.addPerson(0, 9 - i));
        }
        CHECKS.same("the last person", 0, house.depth(9));
    }

    private static void peopleOfAFullHouse() {
        FULL.refuse("an 11th person", Checks.STATE, full -> full.addPerson(0, 0));
        FULL.refuse("an 11th person, last numbers", Checks.STATE, full -> full.addPerson(8, 9));
        FULL.refuse("an 11th person, no mouthpiece", Checks.UNSUPPORTED, full -> full.addPerson(9, 0));
        FULL.refuse("an 11th person, wrong rank there", Checks.ARGUMENT, full -> full.addPerson(9, 10));
        FULL.refuse("an 11th person, no room", Checks.INDEX, full -> full.addPerson(10, 10));
    }

    /** Four calls of rank 5 over the pipes 0, 2, 4 and 6, eight people and a chief of rank 6 in room 8. */
    private static MouthpieceRow fourOn() {
        MouthpieceRow house = Houses.row(9);
        for (int i = 0; i < 9; i++) {
            house.addPerson(i, i == 8 ? 6 : 5);
        }
        for (int i = 0; i < 8; i += 2) {
            CHECKS.same("call", i / 2, house.call(i, i + 1));
        }
        return house;
    }

    private static void callsAtOnce() {
        Refusals four = new Refusals(CHECKS, "4 on", LimitsTest::fourOn);
        four.refuse("a fifth beside them", Checks.STATE, house -> house.call(8, 7));
        four.refuse("a fifth by another one", Checks.STATE, house -> house.call(1, 2));
        four.refuse("one that cannot interrupt", Checks.UNSUPPORTED, house -> house.call(1, 0));
        MouthpieceRow house = fourOn();
        house.hang(1);
        CHECKS.same("a fourth in place of one that ended", 4, house.call(8, 7));
        CHECKS.refuses("a fifth", Checks.STATE, () -> house.call(1, 2));
        house.setValve(7, false);
        CHECKS.same("a fourth in place of one that a valve ended", 5, house.call(1, 2));
    }

    private static void callsAtOnceThatEnd() {
        MouthpieceRow one = fourOn();
        CHECKS.same("three others and one that is interrupted", 4, one.call(8, 6));
        CHECKS.same("one interrupted", 1, one.interrupted());
        CHECKS.same("the others are on", true, one.isOn(0) && one.isOn(1) && one.isOn(2) && one.isOn(4));
        CHECKS.same("that one is not", false, one.isOn(3));
        MouthpieceRow all = fourOn();
        CHECKS.same("over all four", 4, all.call(8, 0));
        CHECKS.same("four interrupted", 4, all.interrupted());
        CHECKS.same("one is on", "00001", on(all, 5));
    }

    private static String on(MouthpieceRow house, int calls) {
        StringBuilder bits = new StringBuilder();
        for (int i = 0; i < calls; i++) {
            bits.append(house.isOn(i) ? '1' : '0');
        }
        return bits.toString();
    }

    /** Person 0 of rank 5 has a call over pipe 0 on, if that is asked for; person 1 is of rank 6. */
    private static MouthpieceRow manyCalls(int calls, boolean isLastOn) {
        MouthpieceRow house = Houses.row(3);
        house.addPerson(0, 5);
        house.addPerson(1, 6);
        for (int i = 0; i < calls; i++) {
            house.call(0, 1);
            if (i + 1 < calls || !isLastOn) {
                house.hang(i);
            }
        }
        return house;
    }

    private static void callsInAll() {
        MouthpieceRow house = manyCalls(59, false);
        CHECKS.refuses("no call 59", Checks.INDEX, () -> house.isOn(59));
        CHECKS.same("the 60th", 59, house.call(0, 1));
        CHECKS.same("it is on", true, house.isOn(59));
        CHECKS.same("the bill of 60", 180, house.bill(0));
        Refusals none = new Refusals(CHECKS, "60 were", () -> manyCalls(60, false));
        none.refuse("a 61st", Checks.STATE, many -> many.call(0, 1));
        Refusals one = new Refusals(CHECKS, "60 were, one is on", () -> manyCalls(60, true));
        one.refuse("a 61st beside it", Checks.STATE, many -> many.call(1, 2));
        one.refuse("a 61st that would interrupt", Checks.STATE, many -> many.call(1, 0));
        FULL.refuse("a 61st and a fifth", Checks.STATE, full -> full.call(8, 7));
        FULL.refuse("a 61st that would interrupt", Checks.STATE, full -> full.call(9, 6));
    }

    private static void callsRefusedBeforeLimits() {
        Refusals asleep = new Refusals(CHECKS, "full, asleep", () -> {
            MouthpieceRow house = Houses.full();
            house.sleep(8, 1);
            return house;
        });
        asleep.refuse("a sleeper's", Checks.UNSUPPORTED, full -> full.call(8, 7));
        FULL.refuse("a caller's", Checks.UNSUPPORTED, full -> full.call(0, 1));
        FULL.refuse("to the own room", Checks.UNSUPPORTED, full -> full.call(8, 8));
        FULL.refuse("to a room without mouthpiece", Checks.UNSUPPORTED, full -> full.call(8, 9));
        FULL.refuse("of like rank", Checks.UNSUPPORTED, full -> full.call(8, 6));
        FULL.refuse("by nobody", Checks.INDEX, full -> full.call(10, 8));
        Refusals shut = new Refusals(CHECKS, "full, shut", () -> {
            MouthpieceRow house = Houses.full();
            house.setValve(7, false);
            return house;
        });
        shut.refuse("where sound does not come", Checks.UNSUPPORTED, full -> full.call(8, 7));
    }

    private static void letters() {
        MouthpieceRow house = new MouthpieceRow();
        for (int i = 1; i <= 12; i++) {
            CHECKS.same("letters", i, house.type(i % 2 == 0 ? 'a' : 'z'));
        }
        CHECKS.same("order of 12", 0, house.addOrder());
        CHECKS.same("the first one again", 1, house.type('a'));
        FULL.refuse("a 13th letter", Checks.STATE, full -> full.type('a'));
        FULL.refuse("a 13th letter, the last", Checks.STATE, full -> full.type('z'));
        FULL.refuse("a 13th, before a", Checks.ARGUMENT, full -> full.type('`'));
        FULL.refuse("a 13th, behind z", Checks.ARGUMENT, full -> full.type('{'));
    }

    private static void orders() {
        MouthpieceRow house = new MouthpieceRow();
        for (int i = 0; i < 8; i++) {
            CHECKS.same("order", i, Houses.order(house, "abcdefgh".substring(i)));
        }
        FULL.refuse("a ninth order", Checks.STATE, MouthpieceRow::addOrder);
        Refusals other = new Refusals(CHECKS, "full, other letters typed", () -> fullWith("ha"));
        other.refuse("a ninth order that begins like one", Checks.STATE, MouthpieceRow::addOrder);
    }

    private static MouthpieceRow fullWith(String typed) {
        MouthpieceRow house = Houses.full();
        house.wipe();
        Houses.type(house, typed);
        return house;
    }

    private static void ordersRefusedBeforeTheLimit() {
        Refusals nothing = new Refusals(CHECKS, "full, nothing typed", () -> fullWith(""));
        nothing.refuse("a ninth order", Checks.UNSUPPORTED, MouthpieceRow::addOrder);
        for (String word : new String[] {"a", "h"}) {
            Refusals same = new Refusals(CHECKS, "full, an order typed", () -> fullWith(word));
            same.refuse("a ninth order", Checks.UNSUPPORTED, MouthpieceRow::addOrder);
        }
    }

    private static void messages() {
        MouthpieceRow house = Houses.peopled(2);
        house.call(0, 1);
        for (int i = 0; i < 40; i++) {
            CHECKS.same("message", i, Houses.say(house, 0, "o"));
        }
        CHECKS.same("the last message", 'o', house.letterAt(1, 39, 0));
        FULL.refuse("a 41st message", Checks.STATE, full -> full.say(56));
        FULL.refuse("a 41st message in the last call", Checks.STATE, full -> full.say(59));
    }

    private static void messagesByTelephone() {
        MouthpieceRow house = Houses.peopled(2);
        house.setLine(0, 0);
        house.setLine(1, 1);
        house.call(0, 1);
        for (int i = 0; i < 39; i++) {
            Houses.say(house, 0, "o");
        }
        house.type('o');
        CHECKS.same("the 40th, by telephone", 39, house.phoneSay(0, 1));
        house.type('o');
        CHECKS.refuses("a 41st in a call", Checks.STATE, () -> house.say(0));
        CHECKS.refuses("a 41st by telephone", Checks.STATE, () -> house.phoneSay(1, 0));
        FULL.refuse("a 41st message by telephone", Checks.STATE, full -> full.phoneSay(0, 1));
    }

    private static void messagesRefusedBeforeTheLimit() {
        FULL.refuse("in a call that ended", Checks.UNSUPPORTED, full -> full.say(55));
        FULL.refuse("in no call", Checks.INDEX, full -> full.say(60));
        FULL.refuse("to the own room", Checks.UNSUPPORTED, full -> full.phoneSay(0, 0));
        FULL.refuse("to a room without telephone", Checks.UNSUPPORTED, full -> full.phoneSay(0, 2));
        FULL.refuse("from a room without telephone", Checks.UNSUPPORTED, full -> full.phoneSay(2, 0));
        Refusals nothing = new Refusals(CHECKS, "full, nothing typed", () -> fullWith(""));
        nothing.refuse("nothing is said", Checks.UNSUPPORTED, full -> full.say(56));
        nothing.refuse("nothing is said by telephone", Checks.UNSUPPORTED, full -> full.phoneSay(0, 1));
        Refusals asleep = new Refusals(CHECKS, "full, asleep", () -> {
            MouthpieceRow house = Houses.full();
            house.sleep(1, 1);
            return house;
        });
        asleep.refuse("by a sleeper", Checks.UNSUPPORTED, full -> full.phoneSay(1, 0));
    }

    private static void minutes() {
        Refusals late = new Refusals(CHECKS, "9400", () -> at(9400));
        late.refuse("600 more", Checks.STATE, house -> house.pass(600));
        late.refuse("601 more", Checks.ARGUMENT, house -> house.pass(601));
        MouthpieceRow house = at(9399);
        CHECKS.same("the last 600", 9999, house.pass(600));
        MouthpieceRow slow = at(9998);
        CHECKS.same("the last 1", 9999, slow.pass(1));
        Refusals last = new Refusals(CHECKS, "9999", () -> at(9999));
        last.refuse("1 more", Checks.STATE, over -> over.pass(1));
        last.refuse("600 more", Checks.STATE, over -> over.pass(600));
        last.refuse("0 more", Checks.ARGUMENT, over -> over.pass(0));
        last.refuse("1 less", Checks.ARGUMENT, over -> over.pass(-1));
        last.refuse("the most", Checks.ARGUMENT, over -> over.pass(Integer.MAX_VALUE));
        last.refuse("the least", Checks.ARGUMENT, over -> over.pass(Integer.MIN_VALUE));
    }

    private static MouthpieceRow at(int minute) {
        MouthpieceRow house = new MouthpieceRow();
        for (int left = minute; left > 0; left -= 600) {
            house.pass(Math.min(left, 600));
        }
        return house;
    }

    /** What needs no place goes on in a full house. */
    private static void fullHouseGoesOn() {
        MouthpieceRow house = Houses.full();
        CHECKS.same("noise of the last room", 0, house.setNoise(9, 9));
        CHECKS.same("valve of the last pipe", true, house.setValve(15, false));
        CHECKS.same("the last person moves", 8, house.move(9, 8));
        CHECKS.same("the last person does the last message", true, house.doIt(8, 39));
        CHECKS.same("fate of the last message", 'd', house.fate(39));
        CHECKS.same("told on in the last call", 0, house.tellOn(59, 39));
        CHECKS.same("told on by telephone", 0, house.phoneOn(1, 0, 39));
        CHECKS.same("six floors, one has answered", 5, house.alarm(9));
        CHECKS.same("the last call ends", true, house.hang(59));
        CHECKS.same("one of 40", 0.025f, house.rightShare());
        CHECKS.same("12 were typed", 12, house.wipe());
        CHECKS.same("sound", true, house.isSound());
    }
}
