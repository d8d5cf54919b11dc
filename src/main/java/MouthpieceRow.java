import java.util.ArrayList;
import java.util.NoSuchElementException;

/** A house that talks through brass tubes. The README says where its promises stand. */
public final class MouthpieceRow {
    private static final int MAX_ROOMS = 10;
    private static final int MAX_PIPES = 16;
    private static final int MAX_PEOPLE = 10;
    private static final int MAX_CALLS = 60;
    private static final int MAX_CALLS_ON = 4;
    private static final int MAX_LETTERS = 12;
    private static final int MAX_ORDERS = 8;
    private static final int MAX_MESSAGES = 40;

    private static final int MAX_FLOOR = 5;
    private static final int MAX_DIGIT = 9;
    private static final int MAX_LENGTH = 40;
    private static final int MAX_CLOG = 40;
    private static final int MAX_LINE = 3;
    private static final int NO_LINE = -1;
    private static final int MAX_PASSING = 600;
    private static final int LAST_MINUTE = 9999;

    private static final int VOICE = 40;
    private static final int WHISTLE = 60;
    private static final int TELEPHONE = 30;
    private static final int WAKING_BY_DEPTH = 5;

    /** Loud enough for every letter. */
    private static final int FACE_TO_FACE = 40;
    private static final int CODE_EASING = 6;

    /** More than any way can lose. */
    private static final int NO_WAY = 1000000;
    /** A way passes no room twice, so it has fewer pipes than there are rooms. */
    private static final int MAX_WAY_PIPES = MAX_ROOMS - 1;
    private static final int BITS_BY_PIPE = 4;
    private static final int PIPE_BITS = 15;

    private static final char SILENT = (char) 0;

    private final Tubes tubes;
    private final Desk desk;
    private final ArrayList<Person> people;
    private final ArrayList<Call> calls;
    private final ArrayList<Message> messages;
    private int interruptedCalls;
    private boolean hasAlarm;
    private int minute;

    public MouthpieceRow() {
        tubes = new Tubes();
        desk = new Desk();
        people = new ArrayList<>();
        calls = new ArrayList<>();
        messages = new ArrayList<>();
    }

    // Rooms and pipes.

    public int addRoom(int floor, int noise, boolean hasMouthpiece)
            throws IllegalArgumentException, IllegalStateException {
        if (!isWithin(floor, 0, MAX_FLOOR) || !isWithin(noise, 0, MAX_DIGIT)) {
            throw new IllegalArgumentException("floor or noise out of range");
        }
        int number = tubes.rooms.size();
        if (number >= MAX_ROOMS) {
            throw new IllegalStateException("no more rooms");
        }
        tubes.rooms.add(new Room(number, floor, noise, hasMouthpiece));
        return number;
    }

    public int setNoise(int room, int noise) throws IndexOutOfBoundsException, IllegalArgumentException {
        Room place = roomAt(room);
        if (!isWithin(noise, 0, MAX_DIGIT)) {
            throw new IllegalArgumentException("noise out of range");
        }
        int before = place.noise;
        place.noise = noise;
        return before;
    }

    public int addPipe(int room, int other, int length, int bends, int leak)
            throws IndexOutOfBoundsException, IllegalArgumentException, IllegalStateException {
        Room one = roomAt(room);
        Room two = roomAt(other);
        if (one == two || !isWithin(length, 1, MAX_LENGTH) || !isWithin(bends, 0, MAX_DIGIT)
                || !isWithin(leak, 0, MAX_DIGIT)) {
            throw new IllegalArgumentException("one room twice, or a number out of range");
        }
        int number = tubes.pipes.size();
        if (number >= MAX_PIPES) {
            throw new IllegalStateException("no more pipes");
        }
        tubes.pipes.add(new Pipe(number, one, two, length, lossByBuild(length, bends, leak)));
        return number;
    }

    private static int lossByBuild(int length, int bends, int leak) {
        return (length + 3) / 4 + 2 * bends + leak;
    }

    public boolean setValve(int pipe, boolean isOpen) throws IndexOutOfBoundsException {
        Pipe tube = pipeAt(pipe);
        boolean wasOpen = tube.isOpen;
        tube.isOpen = isOpen;
        if (!isOpen) {
            endCallsOver(tube.bit());
        }
        return wasOpen;
    }

    public int clog(int pipe, int clog) throws IndexOutOfBoundsException, IllegalArgumentException {
        Pipe tube = pipeAt(pipe);
        if (!isWithin(clog, 0, MAX_CLOG)) {
            throw new IllegalArgumentException("clog out of range");
        }
        int before = tube.clog;
        tube.clog = clog;
        return before;
    }

    public int loses(int pipe) throws IndexOutOfBoundsException {
        return pipeAt(pipe).loss();
    }

    public int strength(int from, int to) throws IndexOutOfBoundsException {
        Room start = roomAt(from);
        Room end = roomAt(to);
        tubes.spreadFrom(start);
        return end.strengthOf(VOICE);
    }

    public int heard(int from, int to) throws IndexOutOfBoundsException {
        Room start = roomAt(from);
        Room end = roomAt(to);
        tubes.spreadFrom(start);
        return end.loudnessOf(VOICE);
    }

    public int wayLength(int from, int to) throws IndexOutOfBoundsException, NoSuchElementException {
        return endOfWay(from, to).pipesPassed;
    }

    public int wayAt(int from, int to, int index) throws IndexOutOfBoundsException, NoSuchElementException {
        Room end = endOfWay(from, to);
        if (index < 0 || index >= end.pipesPassed) {
            throw new NoSuchElementException("no such index on the way");
        }
        return end.pipeOfWay(index);
    }

    private Room endOfWay(int from, int to) {
        Room start = roomAt(from);
        Room end = roomAt(to);
        tubes.spreadFrom(start);
        if (end.strengthOf(VOICE) == 0) {
            throw new NoSuchElementException("sound does not come there");
        }
        return end;
    }

    // People and calls.

    public int addPerson(int room, int rank) throws IndexOutOfBoundsException, IllegalArgumentException,
            UnsupportedOperationException, IllegalStateException {
        Room place = roomAt(room);
        if (!isWithin(rank, 0, MAX_DIGIT)) {
            throw new IllegalArgumentException("rank out of range");
        }
        needMouthpiece(place);
        int number = people.size();
        if (number >= MAX_PEOPLE) {
            throw new IllegalStateException("no more people");
        }
        people.add(new Person(number, rank, place));
        return number;
    }

    public int sleep(int person, int depth)
            throws IndexOutOfBoundsException, IllegalArgumentException, UnsupportedOperationException {
        Person sleeper = personAt(person);
        if (!isWithin(depth, 0, MAX_DIGIT)) {
            throw new IllegalArgumentException("depth out of range");
        }
        if (isCaller(sleeper)) {
            throw new UnsupportedOperationException("the person calls");
        }
        int before = sleeper.depth;
        sleeper.depth = depth;
        return before;
    }

    public int depth(int person) throws IndexOutOfBoundsException {
        return personAt(person).depth;
    }

    public int move(int person, int room) throws IndexOutOfBoundsException, UnsupportedOperationException {
        Person walker = personAt(person);
        Room place = roomAt(room);
        if (walker.isAsleep() || isCaller(walker)) {
            throw new UnsupportedOperationException("the person sleeps or calls");
        }
        needMouthpiece(place);
        int before = walker.room.number;
        walker.room = place;
        return before;
    }

    public int whistle(int person, int room) throws IndexOutOfBoundsException, UnsupportedOperationException {
        Person whistler = personAt(person);
        Room place = roomAt(room);
        if (whistler.isAsleep() || whistler.room == place) {
            throw new UnsupportedOperationException("the person sleeps or is there");
        }
        tubes.spreadFrom(whistler.room);
        int loudness = place.loudnessOf(WHISTLE);
        int woken = 0;
        for (int i = 0; i < people.size(); i++) {
            Person other = people.get(i);
            if (other.room == place && other.wakesBy(loudness)) {
                other.depth = 0;
                woken++;
            }
        }
        return woken;
    }

    public int call(int person, int room)
            throws IndexOutOfBoundsException, UnsupportedOperationException, IllegalStateException {
        Person caller = personAt(person);
        Room place = roomAt(room);
        if (caller.isAsleep() || isCaller(caller) || caller.room == place || !place.hasMouthpiece) {
            throw new UnsupportedOperationException("the person or the room can have no call");
        }
        tubes.spreadFrom(caller.room);
        if (place.strengthOf(VOICE) == 0) {
            throw new UnsupportedOperationException("sound does not come there");
        }
        int pipes = place.wayBits();
        if (!outranksCallsOver(pipes, caller.rank)) {
            throw new UnsupportedOperationException("a call cannot be interrupted");
        }
        if (callsOnBeside(pipes) >= MAX_CALLS_ON || calls.size() >= MAX_CALLS) {
            throw new IllegalStateException("no more calls");
        }
        interruptedCalls += endCallsOver(pipes);
        caller.room.owed += costOfCall(tubes.lengthOf(pipes));
        calls.add(new Call(caller, pipes));
        return calls.size() - 1;
    }

    private static int costOfCall(int length) {
        return 2 + (length + 9) / 10;
    }

    private boolean outranksCallsOver(int pipes, int rank) {
        for (int i = 0; i < calls.size(); i++) {
            Call other = calls.get(i);
            if (other.holds(pipes) && other.caller.rank >= rank) {
                return false;
            }
        }
        return true;
    }

    private int callsOnBeside(int pipes) {
        int on = 0;
        for (int i = 0; i < calls.size(); i++) {
            Call other = calls.get(i);
            if (other.isOn && !other.holds(pipes)) {
                on++;
            }
        }
        return on;
    }

    private int endCallsOver(int pipes) {
        int ended = 0;
        for (int i = 0; i < calls.size(); i++) {
            Call other = calls.get(i);
            if (other.holds(pipes)) {
                other.isOn = false;
                ended++;
            }
        }
        return ended;
    }

    private boolean isCaller(Person person) {
        for (int i = 0; i < calls.size(); i++) {
            Call own = calls.get(i);
            if (own.isOn && own.caller == person) {
                return true;
            }
        }
        return false;
    }

    public boolean hang(int call) throws IndexOutOfBoundsException {
        Call ended = callAt(call);
        boolean wasOn = ended.isOn;
        ended.isOn = false;
        return wasOn;
    }

    public boolean isOn(int call) throws IndexOutOfBoundsException {
        return callAt(call).isOn;
    }

    public int interrupted() {
        return interruptedCalls;
    }

    // Words and saying.

    public int type(char letter) throws IllegalArgumentException, IllegalStateException {
        if (letter < 'a' || letter > 'z') {
            throw new IllegalArgumentException("no small letter");
        }
        if (desk.typedCount >= MAX_LETTERS) {
            throw new IllegalStateException("no more letters");
        }
        return desk.put(letter);
    }

    public int wipe() {
        int before = desk.typedCount;
        desk.typedCount = 0;
        return before;
    }

    public int addOrder() throws UnsupportedOperationException, IllegalStateException {
        if (desk.typedCount == 0 || desk.isTypedAnOrder()) {
            throw new UnsupportedOperationException("nothing is typed, or it is an order");
        }
        int number = desk.orders.size();
        if (number >= MAX_ORDERS) {
            throw new IllegalStateException("no more orders");
        }
        desk.orders.add(desk.takeWord());
        return number;
    }

    public boolean setCode(boolean is) {
        boolean wasOn = desk.isCodeOn;
        desk.isCodeOn = is;
        return wasOn;
    }

    public int say(int call)
            throws IndexOutOfBoundsException, UnsupportedOperationException, IllegalStateException {
        Call spoken = callAt(call);
        if (!spoken.isOn || desk.typedCount == 0) {
            throw new UnsupportedOperationException("the call is not on, or nothing is typed");
        }
        needFreeMessage();
        tubes.soundFrom(spoken.caller.room);
        return sayNew(spoken.caller);
    }

    public int tellOn(int call, int message) throws IndexOutOfBoundsException, UnsupportedOperationException {
        Call spoken = callAt(call);
        Message told = messageAt(message);
        Knowledge own = told.knowledgeOf(spoken.caller);
        if (!spoken.isOn || own.known == 0) {
            throw new UnsupportedOperationException("the call is not on, or no letter is known");
        }
        tubes.soundFrom(spoken.caller.room);
        return letHear(spoken.caller, told, desk.toldBy(own));
    }

    private int sayNew(Person author) {
        Message said = new Message(desk.takeWord(), author, minute);
        messages.add(said);
        letHear(author, said, said.word.letters);
        return messages.size() - 1;
    }

    /** Uses the loudness that was last laid into the rooms; people are in rooms with mouthpieces alone. */
    private int letHear(Person speaker, Message message, char[] said) {
        int more = 0;
        for (int i = 0; i < people.size(); i++) {
            Person hearer = people.get(i);
            if (hearer == speaker || hearer.isAsleep() || hearer.room.loudness == 0) {
                continue;
            }
            Knowledge own = message.knowledgeOf(hearer);
            if (own.hear(said, hearer.room.loudness, desk.easing(), speaker, minute)) {
                more++;
            }
        }
        return more;
    }

    public boolean tell(int person, int other, int message)
            throws IndexOutOfBoundsException, IllegalArgumentException, UnsupportedOperationException {
        Person speaker = personAt(person);
        Person hearer = personAt(other);
        Message told = messageAt(message);
        if (speaker == hearer) {
            throw new IllegalArgumentException("both are the same");
        }
        Knowledge own = told.knowledgeOf(speaker);
        if (speaker.isAsleep() || hearer.isAsleep() || speaker.room != hearer.room || own.known == 0) {
            throw new UnsupportedOperationException("they cannot talk, or no letter is known");
        }
        return told.knowledgeOf(hearer).hear(desk.toldBy(own), FACE_TO_FACE, 0, speaker, minute);
    }

    public boolean knows(int person, int message, int place)
            throws IndexOutOfBoundsException, NoSuchElementException {
        return letterKnown(knowledgeAt(person, message), place) != SILENT;
    }

    public char letterAt(int person, int message, int place)
            throws IndexOutOfBoundsException, NoSuchElementException {
        char letter = letterKnown(knowledgeAt(person, message), place);
        if (letter == SILENT) {
            throw new NoSuchElementException("the letter is not known");
        }
        return letter;
    }

    private static char letterKnown(Knowledge knowledge, int place) {
        if (place < 0 || place >= knowledge.letters.length) {
            throw new NoSuchElementException("no such place in the word");
        }
        return knowledge.letters[place];
    }

    public boolean believes(int person, int message) throws IndexOutOfBoundsException {
        return desk.beliefOf(knowledgeAt(person, message)) != null;
    }

    public boolean isRight(int person, int message) throws IndexOutOfBoundsException, NoSuchElementException {
        char[] belief = desk.beliefOf(knowledgeAt(person, message));
        if (belief == null) {
            throw new NoSuchElementException("no word is believed");
        }
        return messageAt(message).word.isSame(belief, belief.length);
    }

    public int fits(int person, int message) throws IndexOutOfBoundsException {
        return desk.countFitting(knowledgeAt(person, message).letters);
    }

    public int source(int person, int message) throws IndexOutOfBoundsException, NoSuchElementException {
        Person teller = knowledgeAt(person, message).source;
        if (teller == null) {
            throw new NoSuchElementException("the author, or no letter is known");
        }
        return teller.number;
    }

    public int chain(int person, int message) throws IndexOutOfBoundsException, NoSuchElementException {
        Knowledge knowledge = knowledgeAt(person, message);
        if (knowledge.known == 0) {
            throw new NoSuchElementException("no letter is known");
        }
        Message told = messageAt(message);
        int tellers = 0;
        while (knowledge.source != null && tellers < MAX_PEOPLE) {
            knowledge = told.knowledgeOf(knowledge.source);
            tellers++;
        }
        return tellers;
    }

    public int toldAt(int person, int message) throws IndexOutOfBoundsException, NoSuchElementException {
        Knowledge knowledge = knowledgeAt(person, message);
        if (knowledge.known == 0) {
            throw new NoSuchElementException("no letter is known");
        }
        return knowledge.since;
    }

    // Deeds and alarms.

    public boolean doIt(int person, int message)
            throws IndexOutOfBoundsException, UnsupportedOperationException {
        Person doer = personAt(person);
        Message order = messageAt(message);
        char[] belief = desk.beliefOf(order.knowledgeOf(doer));
        if (doer.isAsleep() || belief == null || order.isDone) {
            throw new UnsupportedOperationException("the person cannot do it, or it was done");
        }
        order.isDone = true;
        order.isDoneRightly = order.word.isSame(belief, belief.length);
        return order.isDoneRightly;
    }

    public char fate(int message) throws IndexOutOfBoundsException {
        Message told = messageAt(message);
        if (told.isDone) {
            return told.isDoneRightly ? 'd' : 'w';
        }
        char fate = 'n';
        for (int i = 0; i < people.size(); i++) {
            Person person = people.get(i);
            Knowledge knowledge = told.knowledgeOf(person);
            if (person == told.author || knowledge.known == 0) {
                continue;
            }
            if (desk.beliefOf(knowledge) != null) {
                return 'k';
            }
            fate = 'h';
        }
        return fate;
    }

    public int alarm(int person) throws IndexOutOfBoundsException, UnsupportedOperationException {
        Person first = personAt(person);
        if (first.isAsleep()) {
            throw new UnsupportedOperationException("the person sleeps");
        }
        for (int i = 0; i < people.size(); i++) {
            Person other = people.get(i);
            other.isAlarmed = other == first;
        }
        hasAlarm = true;
        return floorsWaiting();
    }

    public int passOn(int person) throws IndexOutOfBoundsException, UnsupportedOperationException {
        Person speaker = personAt(person);
        if (speaker.isAsleep() || !speaker.isAlarmed) {
            throw new UnsupportedOperationException("the person sleeps, or does not know of an alarm");
        }
        tubes.soundFrom(speaker.room);
        int more = 0;
        for (int i = 0; i < people.size(); i++) {
            if (isAlarmedBy(people.get(i))) {
                more++;
            }
        }
        return more;
    }

    private static boolean isAlarmedBy(Person hearer) {
        int loudness = hearer.room.loudness;
        if (hearer.wakesBy(loudness)) {
            hearer.depth = 0;
        }
        if (loudness == 0 || hearer.isAsleep() || hearer.isAlarmed) {
            return false;
        }
        hearer.isAlarmed = true;
        return true;
    }

    public boolean knowsAlarm(int person) throws IndexOutOfBoundsException {
        return personAt(person).isAlarmed;
    }

    public int unanswered() {
        return hasAlarm ? floorsWaiting() : 0;
    }

    private int floorsWaiting() {
        int peopled = 0;
        int answered = 0;
        for (int i = 0; i < people.size(); i++) {
            Person person = people.get(i);
            int floor = 1 << person.room.floor;
            peopled |= floor;
            if (person.isAlarmed) {
                answered |= floor;
            }
        }
        return Integer.bitCount(peopled & ~answered);
    }

    // Telephones, minutes and bills.

    public int setLine(int room, int line)
            throws IndexOutOfBoundsException, IllegalArgumentException, UnsupportedOperationException {
        Room place = roomAt(room);
        if (!isWithin(line, NO_LINE, MAX_LINE)) {
            throw new IllegalArgumentException("line out of range");
        }
        needMouthpiece(place);
        int before = place.line;
        place.line = line;
        return before;
    }

    public int phoneSay(int person, int room)
            throws IndexOutOfBoundsException, UnsupportedOperationException, IllegalStateException {
        Person speaker = personAt(person);
        Room place = roomAt(room);
        if (!canPhone(speaker, place) || desk.typedCount == 0) {
            throw new UnsupportedOperationException("no telephone talk, or nothing is typed");
        }
        needFreeMessage();
        ring(speaker.room, place.line);
        return sayNew(speaker);
    }

    public int phoneOn(int person, int room, int message)
            throws IndexOutOfBoundsException, UnsupportedOperationException {
        Person speaker = personAt(person);
        Room place = roomAt(room);
        Message told = messageAt(message);
        Knowledge own = told.knowledgeOf(speaker);
        if (!canPhone(speaker, place) || own.known == 0) {
            throw new UnsupportedOperationException("no telephone talk, or no letter is known");
        }
        ring(speaker.room, place.line);
        return letHear(speaker, told, desk.toldBy(own));
    }

    private static boolean canPhone(Person speaker, Room place) {
        return !speaker.isAsleep() && speaker.room.line != NO_LINE && place.line != NO_LINE
                && speaker.room != place;
    }

    private void ring(Room own, int line) {
        own.owed++;
        tubes.soundOnLine(own, line);
    }

    public int pass(int minutes) throws IllegalArgumentException, IllegalStateException {
        if (!isWithin(minutes, 1, MAX_PASSING)) {
            throw new IllegalArgumentException("minutes out of range");
        }
        if (minute + minutes > LAST_MINUTE) {
            throw new IllegalStateException("no more minutes");
        }
        minute += minutes;
        return minute;
    }

    public int bill(int room) throws IndexOutOfBoundsException {
        return roomAt(room).owed;
    }

    // Sums.

    public long checksum() {
        long sum = 7;
        for (int i = 0; i < people.size(); i++) {
            Person person = people.get(i);
            sum = 31 * sum + person.room.number;
            sum = 31 * sum + person.depth;
        }
        for (int i = 0; i < messages.size(); i++) {
            sum = addLettersKnown(sum, messages.get(i));
        }
        for (int i = 0; i < calls.size(); i++) {
            sum = 31 * sum + (calls.get(i).isOn ? 1 : 0);
        }
        for (int i = 0; i < tubes.rooms.size(); i++) {
            sum = 31 * sum + tubes.rooms.get(i).owed;
        }
        return 31 * sum + minute;
    }

    private long addLettersKnown(long sum, Message message) {
        long added = sum;
        for (int i = 0; i < people.size(); i++) {
            added = 31 * added + message.knowledgeOf(people.get(i)).known;
        }
        return added;
    }

    public float rightShare() throws NoSuchElementException {
        int all = messages.size();
        if (all == 0) {
            throw new NoSuchElementException("no messages");
        }
        int right = 0;
        for (int i = 0; i < all; i++) {
            if (messages.get(i).isDoneRightly) {
                right++;
            }
        }
        return (float) right / (float) all;
    }

    public double meanHeard() throws NoSuchElementException {
        int spoken = tubes.countMouthpieces();
        int pairs = spoken * (spoken - 1);
        if (pairs <= 0) {
            throw new NoSuchElementException("no two rooms with mouthpieces");
        }
        int sum = 0;
        for (int i = 0; i < tubes.rooms.size(); i++) {
            Room from = tubes.rooms.get(i);
            if (from.hasMouthpiece) {
                sum += tubes.sumHeardFrom(from);
            }
        }
        return (double) sum / (double) pairs;
    }

    public boolean isSound() {
        if (!areCallsSound()) {
            return false;
        }
        for (int i = 0; i < messages.size(); i++) {
            if (!areSourcesSound(messages.get(i))) {
                return false;
            }
        }
        return true;
    }

    private boolean areCallsSound() {
        int unusable = tubes.shutBits();
        for (int i = 0; i < calls.size(); i++) {
            Call call = calls.get(i);
            if (call.holds(unusable) || call.isOn && call.caller.isAsleep()) {
                return false;
            }
            if (call.isOn) {
                unusable |= call.pipes;
            }
        }
        return true;
    }

    private boolean areSourcesSound(Message message) {
        for (int i = 0; i < people.size(); i++) {
            Person person = people.get(i);
            Knowledge knowledge = message.knowledgeOf(person);
            if (knowledge.known == 0 || person == message.author) {
                continue;
            }
            if (knowledge.source == null) {
                return false;
            }
            Knowledge before = message.knowledgeOf(knowledge.source);
            if (before.known == 0 || before.since > knowledge.since) {
                return false;
            }
        }
        return true;
    }

    // What a number or a state must be before it is used.

    private static boolean isWithin(int number, int low, int high) {
        return number >= low && number <= high;
    }

    private Room roomAt(int number) {
        if (number < 0 || number >= tubes.rooms.size()) {
            throw new IndexOutOfBoundsException("no such room");
        }
        return tubes.rooms.get(number);
    }

    private Pipe pipeAt(int number) {
        if (number < 0 || number >= tubes.pipes.size()) {
            throw new IndexOutOfBoundsException("no such pipe");
        }
        return tubes.pipes.get(number);
    }

    private Person personAt(int number) {
        if (number < 0 || number >= people.size()) {
            throw new IndexOutOfBoundsException("no such person");
        }
        return people.get(number);
    }

    private Call callAt(int number) {
        if (number < 0 || number >= calls.size()) {
            throw new IndexOutOfBoundsException("no such call");
        }
        return calls.get(number);
    }

    private Message messageAt(int number) {
        if (number < 0 || number >= messages.size()) {
            throw new IndexOutOfBoundsException("no such message");
        }
        return messages.get(number);
    }

    private Knowledge knowledgeAt(int person, int message) {
        return messageAt(message).knowledgeOf(personAt(person));
    }

    private static void needMouthpiece(Room room) {
        if (!room.hasMouthpiece) {
            throw new UnsupportedOperationException("the room has no mouthpiece");
        }
    }

    private void needFreeMessage() {
        if (messages.size() >= MAX_MESSAGES) {
            throw new IllegalStateException("no more messages");
        }
    }

    /** A room, and how the sound that was spread last comes to it. */
    private static final class Room {
        final int number;
        final int floor;
        final boolean hasMouthpiece;
        int noise;
        int line;
        int owed;
        int loudness;

        // Written anew by each spreading of sound.
        int openPipes;
        boolean isSettled;
        int lost;
        int pipesPassed;
        long way;

        Room(int number, int floor, int noise, boolean hasMouthpiece) {
            this.number = number;
            this.floor = floor;
            this.noise = noise;
            this.hasMouthpiece = hasMouthpiece;
            line = NO_LINE;
        }

        int strengthOf(int start) {
            return Math.max(0, start - lost);
        }

        int loudnessOf(int start) {
            return Math.max(0, strengthOf(start) - noise);
        }

        /** The first pipe stands highest, so that of two ways to one room the lesser number goes first. */
        long wayOver(int pipe) {
            return way | (long) pipe << shiftOf(pipesPassed);
        }

        int pipeOfWay(int index) {
            return (int) (way >> shiftOf(index)) & PIPE_BITS;
        }

        int wayBits() {
            int bits = 0;
            for (int i = 0; i < pipesPassed; i++) {
                bits |= 1 << pipeOfWay(i);
            }
            return bits;
        }

        private static int shiftOf(int index) {
            return BITS_BY_PIPE * (MAX_WAY_PIPES - 1 - index);
        }
    }

    /** A pipe between two rooms. */
    private static final class Pipe {
        final int number;
        final Room one;
        final Room two;
        final int length;
        final int builtLoss;
        int clog;
        boolean isOpen;

        Pipe(int number, Room one, Room two, int length, int builtLoss) {
            this.number = number;
            this.one = one;
            this.two = two;
            this.length = length;
            this.builtLoss = builtLoss;
            isOpen = true;
        }

        int loss() {
            return builtLoss + clog;
        }

        int bit() {
            return 1 << number;
        }

        /** The room behind the pipe, or null if it does not begin in the given one. */
        Room behind(Room room) {
            if (room == one) {
                return two;
            }
            return room == two ? one : null;
        }
    }

    /** The rooms, the pipes, and the ways of sound. */
    private static final class Tubes {
        final ArrayList<Room> rooms;
        final ArrayList<Pipe> pipes;

        Tubes() {
            rooms = new ArrayList<>();
            pipes = new ArrayList<>();
        }

        /**
         * Each step loses 1 at least, so the room that lost least, of those not settled, has its best way
         * already, and a way through one room twice is never the best.
         */
        void spreadFrom(Room from) {
            forgetSound();
            countOpenPipes();
            from.lost = 0;
            for (int i = 0; i < rooms.size(); i++) {
                Room room = nearestUnsettled();
                if (room == null) {
                    return;
                }
                room.isSettled = true;
                int usedPipes = room == from ? 1 : 2;
                leadOn(room, room.lost + Math.max(0, room.openPipes - usedPipes));
            }
        }

        private void forgetSound() {
            for (int i = 0; i < rooms.size(); i++) {
                Room room = rooms.get(i);
                room.openPipes = 0;
                room.isSettled = false;
                room.lost = NO_WAY;
                room.pipesPassed = 0;
                room.way = 0;
            }
        }

        private void countOpenPipes() {
            for (int i = 0; i < pipes.size(); i++) {
                Pipe pipe = pipes.get(i);
                if (pipe.isOpen) {
                    pipe.one.openPipes++;
                    pipe.two.openPipes++;
                }
            }
        }

        private Room nearestUnsettled() {
            Room nearest = null;
            for (int i = 0; i < rooms.size(); i++) {
                Room room = rooms.get(i);
                if (!room.isSettled && room.lost < NO_WAY && (nearest == null || room.lost < nearest.lost)) {
                    nearest = room;
                }
            }
            return nearest;
        }

        private void leadOn(Room room, int lostOnLeaving) {
            for (int i = 0; i < pipes.size(); i++) {
                Pipe pipe = pipes.get(i);
                if (!pipe.isOpen) {
                    continue;
                }
                Room next = pipe.behind(room);
                if (next != null && !next.isSettled) {
                    improve(next, room, pipe.number, lostOnLeaving + pipe.loss());
                }
            }
        }

        private static void improve(Room next, Room room, int pipe, int lost) {
            long way = room.wayOver(pipe);
            if (lost < next.lost || lost == next.lost && way < next.way) {
                next.lost = lost;
                next.way = way;
                next.pipesPassed = room.pipesPassed + 1;
            }
        }

        void soundFrom(Room from) {
            spreadFrom(from);
            for (int i = 0; i < rooms.size(); i++) {
                Room room = rooms.get(i);
                room.loudness = room.loudnessOf(VOICE);
            }
        }

        void soundOnLine(Room own, int line) {
            for (int i = 0; i < rooms.size(); i++) {
                Room room = rooms.get(i);
                boolean isReached = room != own && room.line == line;
                room.loudness = isReached ? Math.max(0, TELEPHONE - room.noise) : 0;
            }
        }

        int countMouthpieces() {
            int count = 0;
            for (int i = 0; i < rooms.size(); i++) {
                if (rooms.get(i).hasMouthpiece) {
                    count++;
                }
            }
            return count;
        }

        int sumHeardFrom(Room from) {
            spreadFrom(from);
            int sum = 0;
            for (int i = 0; i < rooms.size(); i++) {
                Room room = rooms.get(i);
                if (room != from && room.hasMouthpiece) {
                    sum += room.loudnessOf(VOICE);
                }
            }
            return sum;
        }

        int lengthOf(int pipeBits) {
            int length = 0;
            for (int i = 0; i < pipes.size(); i++) {
                Pipe pipe = pipes.get(i);
                if ((pipeBits & pipe.bit()) != 0) {
                    length += pipe.length;
                }
            }
            return length;
        }

        int shutBits() {
            int bits = 0;
            for (int i = 0; i < pipes.size(); i++) {
                Pipe pipe = pipes.get(i);
                if (!pipe.isOpen) {
                    bits |= pipe.bit();
                }
            }
            return bits;
        }
    }

    /** Somebody in a room, awake at the depth 0. */
    private static final class Person {
        final int number;
        final int rank;
        Room room;
        int depth;
        boolean isAlarmed;

        Person(int number, int rank, Room room) {
            this.number = number;
            this.rank = rank;
            this.room = room;
        }

        boolean isAsleep() {
            return depth > 0;
        }

        boolean wakesBy(int loudness) {
            return depth > 0 && loudness >= WAKING_BY_DEPTH * depth;
        }
    }

    /** A call, with its pipes as bits. */
    private static final class Call {
        final Person caller;
        final int pipes;
        boolean isOn;

        Call(Person caller, int pipes) {
            this.caller = caller;
            this.pipes = pipes;
            isOn = true;
        }

        boolean holds(int pipeBits) {
            return isOn && (pipes & pipeBits) != 0;
        }
    }

    /** A whole word: an order, or that of a message. */
    private static final class Word {
        final char[] letters;

        Word(char[] letters) {
            this.letters = letters;
        }

        boolean isSame(char[] other, int length) {
            if (length != letters.length || length > other.length) {
                return false;
            }
            for (int i = 0; i < letters.length; i++) {
                if (letters[i] != other[i]) {
                    return false;
                }
            }
            return true;
        }

        boolean isFitting(char[] known) {
            if (known.length != letters.length) {
                return false;
            }
            for (int i = 0; i < letters.length; i++) {
                if (known[i] != SILENT && known[i] != letters[i]) {
                    return false;
                }
            }
            return true;
        }
    }

    /** What is typed, the orders, the code, and what is made of half known words with them. */
    private static final class Desk {
        final char[] typed;
        int typedCount;
        final ArrayList<Word> orders;
        boolean isCodeOn;

        Desk() {
            typed = new char[MAX_LETTERS];
            orders = new ArrayList<>();
        }

        int put(char letter) {
            if (typedCount >= 0 && typedCount < typed.length) {
                typed[typedCount] = letter;
                typedCount++;
            }
            return typedCount;
        }

        Word takeWord() {
            char[] letters = new char[Math.max(0, typedCount)];
            for (int i = 0; i < letters.length && i < typed.length; i++) {
                letters[i] = typed[i];
            }
            typedCount = 0;
            return new Word(letters);
        }

        boolean isTypedAnOrder() {
            for (int i = 0; i < orders.size(); i++) {
                if (orders.get(i).isSame(typed, typedCount)) {
                    return true;
                }
            }
            return false;
        }

        int easing() {
            return isCodeOn ? CODE_EASING : 0;
        }

        int countFitting(char[] known) {
            int count = 0;
            for (int i = 0; i < orders.size(); i++) {
                if (orders.get(i).isFitting(known)) {
                    count++;
                }
            }
            return count;
        }

        /** The letters that are believed, or null if nothing is. */
        char[] beliefOf(Knowledge knowledge) {
            if (knowledge.known == 0) {
                return null;
            }
            if (knowledge.known == knowledge.letters.length) {
                return knowledge.letters;
            }
            return onlyFitting(knowledge.letters);
        }

        private char[] onlyFitting(char[] known) {
            char[] only = null;
            for (int i = 0; i < orders.size(); i++) {
                Word order = orders.get(i);
                if (order.isFitting(known)) {
                    if (only != null) {
                        return null;
                    }
                    only = order.letters;
                }
            }
            return only;
        }

        /** What is said by telling on; it may have silent places. */
        char[] toldBy(Knowledge knowledge) {
            char[] belief = beliefOf(knowledge);
            return belief == null ? knowledge.letters : belief;
        }
    }

    /** What one person knows of one message. */
    private static final class Knowledge {
        private static final String VOWELS = "aeiou";
        private static final String HARD_LETTERS = "cfhkpqstx";

        final char[] letters;
        int known;
        Person source;
        int since;

        Knowledge(int length) {
            letters = new char[Math.max(0, length)];
        }

        /** Tells whether a letter more is known then. */
        boolean hear(char[] said, int loudness, int easing, Person speaker, int minute) {
            int before = known;
            for (int i = 0; i < letters.length && i < said.length; i++) {
                if (letters[i] == SILENT && said[i] != SILENT && loudness >= needOf(said[i], easing)) {
                    letters[i] = said[i];
                    known++;
                }
            }
            if (before == 0 && known > 0) {
                source = speaker;
                since = minute;
            }
            return known > before;
        }

        private static int needOf(char letter, int easing) {
            int need = 10;
            if (VOWELS.indexOf(letter) >= 0) {
                need = 4;
            } else if (HARD_LETTERS.indexOf(letter) >= 0) {
                need = 16;
            }
            return Math.max(1, need - easing);
        }
    }

    /** A message, and what each person knows of it. */
    private static final class Message {
        final Word word;
        final Person author;
        final Knowledge[] knowledge;
        boolean isDone;
        boolean isDoneRightly;

        Message(Word word, Person author, int minute) {
            this.word = word;
            this.author = author;
            knowledge = new Knowledge[MAX_PEOPLE];
            for (int i = 0; i < knowledge.length; i++) {
                knowledge[i] = new Knowledge(word.letters.length);
            }
            knowledgeOf(author).hear(word.letters, FACE_TO_FACE, 0, null, minute);
        }

        Knowledge knowledgeOf(Person person) {
            int number = person.number;
            if (number < 0 || number >= knowledge.length) {
                return new Knowledge(word.letters.length);
            }
            return knowledge[number];
        }
    }
}
