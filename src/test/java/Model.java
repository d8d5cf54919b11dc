import java.util.ArrayList;
import java.util.Arrays;
import java.util.List;
import java.util.NoSuchElementException;

/**
 * The document written a second time, slowly and plainly: every way is tried, words are texts with dots for
 * the letters that are not known. It shares no code with the class, so that a slip in one shows in the other.
 */
final class Model {
    static final class Tube {
        int a, b, length, bends, leak, clog;
        boolean open = true;

        int lost() {
            int quarters = length / 4;
            if (length % 4 > 0) {
                quarters++;
            }
            return quarters + bends + bends + leak + clog;
        }
    }

    static final class Talk {
        int who;
        boolean on = true;
        List<Integer> tubes;
    }

    static final class News {
        String word;
        int author;
        String done = "";
        final String[] heads = new String[10];
        final int[] from = new int[10];
        final int[] when = new int[10];
    }

    final List<int[]> rooms = new ArrayList<>(); // floor, noise, mouthpiece, line, owed
    final List<Tube> tubes = new ArrayList<>();
    final List<int[]> folk = new ArrayList<>(); // room, rank, depth, alarmed
    final List<Talk> talks = new ArrayList<>();
    final List<News> news = new ArrayList<>();
    final List<String> orders = new ArrayList<>();
    String typed = "";
    boolean code;
    boolean alarmed;
    int cuts;
    int now;

    private static void bad(boolean is, RuntimeException why) {
        if (is) {
            throw why;
        }
    }

    private static void index(int number, List<?> all) {
        bad(number < 0 || number >= all.size(), new IndexOutOfBoundsException());
    }

    private static void range(int number, int low, int high) {
        bad(number < low || number > high, new IllegalArgumentException());
    }

    private static void unsupported(boolean is) {
        bad(is, new UnsupportedOperationException());
    }

    private static void state(boolean is) {
        bad(is, new IllegalStateException());
    }

    private static void missing(boolean is) {
        bad(is, new NoSuchElementException());
    }

    // Ways: all of them are walked.

    private int bestLoss;
    private List<Integer> bestWay;

    private int openAt(int room) {
        int open = 0;
        for (Tube tube : tubes) {
            if (tube.open && (tube.a == room || tube.b == room)) {
                open++;
            }
        }
        return open;
    }

    private void walk(int at, int to, int lost, List<Integer> way, boolean[] been) {
        if (at == to) {
            if (bestWay == null || lost < bestLoss || lost == bestLoss && isLess(way, bestWay)) {
                bestLoss = lost;
                bestWay = new ArrayList<>(way);
            }
            return;
        }
        int branches = openAt(at) - (way.isEmpty() ? 1 : 2);
        for (int i = 0; i < tubes.size(); i++) {
            Tube tube = tubes.get(i);
            if (!tube.open || tube.a != at && tube.b != at) {
                continue;
            }
            int next = tube.a == at ? tube.b : tube.a;
            if (been[next]) {
                continue;
            }
            been[next] = true;
            way.add(i);
            walk(next, to, lost + branches + tube.lost(), way, been);
            way.remove(way.size() - 1);
            been[next] = false;
        }
    }

    private static boolean isLess(List<Integer> way, List<Integer> other) {
        for (int i = 0; i < way.size() && i < other.size(); i++) {
            if (!way.get(i).equals(other.get(i))) {
                return way.get(i) < other.get(i);
            }
        }
        return false;
    }

    private int arrives(int start, int from, int to) {
        bestWay = null;
        bestLoss = 0;
        boolean[] been = new boolean[10];
        been[from] = true;
        walk(from, to, 0, new ArrayList<>(), been);
        if (bestWay == null || start - bestLoss <= 0) {
            return 0;
        }
        return start - bestLoss;
    }

    private int reaches(int start, int from, int to) {
        int strength = arrives(start, from, to);
        return strength <= 0 ? 0 : Math.max(strength - rooms.get(to)[1], 0);
    }

    // Rooms and pipes.

    int addRoom(int floor, int noise, boolean hasMouthpiece) {
        range(floor, 0, 5);
        range(noise, 0, 9);
        state(rooms.size() == 10);
        rooms.add(new int[] {floor, noise, hasMouthpiece ? 1 : 0, -1, 0});
        return rooms.size() - 1;
    }

    int setNoise(int room, int noise) {
        index(room, rooms);
        range(noise, 0, 9);
        int old = rooms.get(room)[1];
        rooms.get(room)[1] = noise;
        return old;
    }

    int addPipe(int room, int other, int length, int bends, int leak) {
        index(room, rooms);
        index(other, rooms);
        bad(room == other, new IllegalArgumentException());
        range(length, 1, 40);
        range(bends, 0, 9);
        range(leak, 0, 9);
        state(tubes.size() == 16);
        Tube tube = new Tube();
        tube.a = room;
        tube.b = other;
        tube.length = length;
        tube.bends = bends;
        tube.leak = leak;
        tubes.add(tube);
        return tubes.size() - 1;
    }

    boolean setValve(int pipe, boolean isOpen) {
        index(pipe, tubes);
        boolean old = tubes.get(pipe).open;
        tubes.get(pipe).open = isOpen;
        for (Talk talk : talks) {
            if (!isOpen && talk.tubes.contains(pipe)) {
                talk.on = false;
            }
        }
        return old;
    }

    int clog(int pipe, int clog) {
        index(pipe, tubes);
        range(clog, 0, 40);
        int old = tubes.get(pipe).clog;
        tubes.get(pipe).clog = clog;
        return old;
    }

    int loses(int pipe) {
        index(pipe, tubes);
        return tubes.get(pipe).lost();
    }

    int strength(int from, int to) {
        index(from, rooms);
        index(to, rooms);
        return arrives(40, from, to);
    }

    int heard(int from, int to) {
        index(from, rooms);
        index(to, rooms);
        return reaches(40, from, to);
    }

    int wayLength(int from, int to) {
        missing(strength(from, to) == 0);
        return bestWay.size();
    }

    int wayAt(int from, int to, int index) {
        missing(strength(from, to) == 0 || index < 0 || index >= bestWay.size());
        return bestWay.get(index);
    }

    // People and calls.

    int addPerson(int room, int rank) {
        index(room, rooms);
        range(rank, 0, 9);
        unsupported(rooms.get(room)[2] == 0);
        state(folk.size() == 10);
        folk.add(new int[] {room, rank, 0, 0});
        return folk.size() - 1;
    }

    private boolean talks(int person) {
        for (Talk talk : talks) {
            if (talk.on && talk.who == person) {
                return true;
            }
        }
        return false;
    }

    int sleep(int person, int depth) {
        index(person, folk);
        range(depth, 0, 9);
        unsupported(talks(person));
        int old = folk.get(person)[2];
        folk.get(person)[2] = depth;
        return old;
    }

    int depth(int person) {
        index(person, folk);
        return folk.get(person)[2];
    }

    int move(int person, int room) {
        index(person, folk);
        index(room, rooms);
        unsupported(folk.get(person)[2] > 0 || talks(person) || rooms.get(room)[2] == 0);
        int old = folk.get(person)[0];
        folk.get(person)[0] = room;
        return old;
    }

    int whistle(int person, int room) {
        index(person, folk);
        index(room, rooms);
        unsupported(folk.get(person)[2] > 0 || folk.get(person)[0] == room);
        int heard = reaches(60, folk.get(person)[0], room);
        int woken = 0;
        for (int[] one : folk) {
            if (one[0] == room && one[2] > 0 && heard > 0 && heard >= 5 * one[2]) {
                one[2] = 0;
                woken++;
            }
        }
        return woken;
    }

    int call(int person, int room) {
        index(person, folk);
        index(room, rooms);
        int[] caller = folk.get(person);
        unsupported(caller[2] > 0 || talks(person) || caller[0] == room || rooms.get(room)[2] == 0);
        unsupported(arrives(40, caller[0], room) == 0);
        List<Integer> way = bestWay;
        int others = 0;
        List<Talk> cut = new ArrayList<>();
        for (Talk talk : talks) {
            if (!talk.on) {
                continue;
            }
            List<Integer> shared = new ArrayList<>(talk.tubes);
            shared.retainAll(way);
            if (shared.isEmpty()) {
                others++;
            } else {
                unsupported(folk.get(talk.who)[1] >= caller[1]);
                cut.add(talk);
            }
        }
        state(others >= 4 || talks.size() >= 60);
        for (Talk talk : cut) {
            talk.on = false;
            cuts++;
        }
        int length = 0;
        for (int tube : way) {
            length += tubes.get(tube).length;
        }
        rooms.get(caller[0])[4] += 2 + length / 10 + (length % 10 > 0 ? 1 : 0);
        Talk talk = new Talk();
        talk.who = person;
        talk.tubes = way;
        talks.add(talk);
        return talks.size() - 1;
    }

    boolean hang(int call) {
        index(call, talks);
        boolean old = talks.get(call).on;
        talks.get(call).on = false;
        return old;
    }

    boolean isOn(int call) {
        index(call, talks);
        return talks.get(call).on;
    }

    int interrupted() {
        return cuts;
    }

    // Words and saying.

    int type(char letter) {
        bad("abcdefghijklmnopqrstuvwxyz".indexOf(letter) < 0, new IllegalArgumentException());
        state(typed.length() == 12);
        typed += letter;
        return typed.length();
    }

    int wipe() {
        int old = typed.length();
        typed = "";
        return old;
    }

    int addOrder() {
        unsupported(typed.isEmpty() || orders.contains(typed));
        state(orders.size() == 8);
        orders.add(typed);
        typed = "";
        return orders.size() - 1;
    }

    boolean setCode(boolean is) {
        boolean old = code;
        code = is;
        return old;
    }

    private static int lettersOf(String head) {
        return head.replace(".", "").length();
    }

    private String belief(String head) {
        if (lettersOf(head) == 0) {
            return null;
        }
        if (!head.contains(".")) {
            return head;
        }
        String only = null;
        for (String order : orders) {
            if (order.matches(head)) {
                if (only != null) {
                    return null;
                }
                only = order;
            }
        }
        return only;
    }

    private int need(char letter) {
        int need = "aeiou".indexOf(letter) >= 0 ? 4 : "cfhkpqstx".indexOf(letter) >= 0 ? 16 : 10;
        return code ? Math.max(need - 6, 1) : need;
    }

    /** Heard at the loudness, or all of it at a loudness below 0. */
    private boolean learn(int hearer, int speaker, News about, String said, int loudness) {
        String old = about.heads[hearer];
        StringBuilder head = new StringBuilder(old);
        for (int i = 0; i < said.length(); i++) {
            char letter = said.charAt(i);
            if (head.charAt(i) == '.' && letter != '.' && (loudness < 0 || loudness >= need(letter))) {
                head.setCharAt(i, letter);
            }
        }
        about.heads[hearer] = head.toString();
        if (lettersOf(old) == 0 && lettersOf(about.heads[hearer]) > 0) {
            about.from[hearer] = speaker;
            about.when[hearer] = now;
        }
        return !old.equals(about.heads[hearer]);
    }

    private int spread(int speaker, News about, String said, int[] loudness) {
        int more = 0;
        for (int i = 0; i < folk.size(); i++) {
            int heard = loudness[folk.get(i)[0]];
            if (i != speaker && folk.get(i)[2] == 0 && heard > 0 && learn(i, speaker, about, said, heard)) {
                more++;
            }
        }
        return more;
    }

    private int[] byTubes(int from) {
        int[] loudness = new int[10];
        for (int i = 0; i < rooms.size(); i++) {
            loudness[i] = rooms.get(i)[2] == 0 ? 0 : reaches(40, from, i);
        }
        return loudness;
    }

    private int[] byLine(int from, int to) {
        int[] loudness = new int[10];
        for (int i = 0; i < rooms.size(); i++) {
            if (i != from && rooms.get(i)[3] == rooms.get(to)[3]) {
                loudness[i] = 30 - rooms.get(i)[1];
            }
        }
        return loudness;
    }

    private News begin(int author) {
        News fresh = new News();
        fresh.word = typed;
        fresh.author = author;
        Arrays.fill(fresh.heads, ".".repeat(typed.length()));
        Arrays.fill(fresh.from, -1);
        fresh.heads[author] = typed;
        fresh.when[author] = now;
        typed = "";
        news.add(fresh);
        return fresh;
    }

    private String told(String head) {
        String belief = belief(head);
        return belief == null ? head : belief;
    }

    int say(int call) {
        index(call, talks);
        unsupported(!talks.get(call).on || typed.isEmpty());
        state(news.size() == 40);
        int who = talks.get(call).who;
        News fresh = begin(who);
        spread(who, fresh, fresh.word, byTubes(folk.get(who)[0]));
        return news.size() - 1;
    }

    int tellOn(int call, int message) {
        index(call, talks);
        index(message, news);
        int who = talks.get(call).who;
        News about = news.get(message);
        unsupported(!talks.get(call).on || lettersOf(about.heads[who]) == 0);
        return spread(who, about, told(about.heads[who]), byTubes(folk.get(who)[0]));
    }

    boolean tell(int person, int other, int message) {
        index(person, folk);
        index(other, folk);
        index(message, news);
        bad(person == other, new IllegalArgumentException());
        int[] one = folk.get(person);
        int[] two = folk.get(other);
        News about = news.get(message);
        unsupported(one[2] > 0 || two[2] > 0 || one[0] != two[0] || lettersOf(about.heads[person]) == 0);
        return learn(other, person, about, told(about.heads[person]), -1);
    }

    private String head(int person, int message) {
        index(person, folk);
        index(message, news);
        return news.get(message).heads[person];
    }

    boolean knows(int person, int message, int place) {
        String head = head(person, message);
        missing(place < 0 || place >= head.length());
        return head.charAt(place) != '.';
    }

    char letterAt(int person, int message, int place) {
        missing(!knows(person, message, place));
        return head(person, message).charAt(place);
    }

    boolean believes(int person, int message) {
        return belief(head(person, message)) != null;
    }

    boolean isRight(int person, int message) {
        String belief = belief(head(person, message));
        missing(belief == null);
        return belief.equals(news.get(message).word);
    }

    int fits(int person, int message) {
        String head = head(person, message);
        int fits = 0;
        for (String order : orders) {
            if (order.matches(head)) {
                fits++;
            }
        }
        return fits;
    }

    int source(int person, int message) {
        String head = head(person, message);
        missing(news.get(message).author == person || lettersOf(head) == 0);
        return news.get(message).from[person];
    }

    int chain(int person, int message) {
        missing(lettersOf(head(person, message)) == 0);
        return news.get(message).author == person ? 0 : 1 + chain(news.get(message).from[person], message);
    }

    int toldAt(int person, int message) {
        missing(lettersOf(head(person, message)) == 0);
        return news.get(message).when[person];
    }

    // Deeds and alarms.

    boolean doIt(int person, int message) {
        String belief = belief(head(person, message));
        News about = news.get(message);
        unsupported(folk.get(person)[2] > 0 || belief == null || !about.done.isEmpty());
        about.done = belief.equals(about.word) ? "d" : "w";
        return about.done.equals("d");
    }

    char fate(int message) {
        index(message, news);
        News about = news.get(message);
        if (!about.done.isEmpty()) {
            return about.done.charAt(0);
        }
        boolean believed = false;
        boolean heard = false;
        for (int i = 0; i < folk.size(); i++) {
            if (i != about.author) {
                believed |= belief(about.heads[i]) != null;
                heard |= lettersOf(about.heads[i]) > 0;
            }
        }
        return believed ? 'k' : heard ? 'h' : 'n';
    }

    int alarm(int person) {
        index(person, folk);
        unsupported(folk.get(person)[2] > 0);
        for (int[] one : folk) {
            one[3] = 0;
        }
        folk.get(person)[3] = 1;
        alarmed = true;
        return unanswered();
    }

    int passOn(int person) {
        index(person, folk);
        unsupported(folk.get(person)[2] > 0 || folk.get(person)[3] == 0);
        int[] loudness = byTubes(folk.get(person)[0]);
        for (int[] one : folk) {
            if (loudness[one[0]] > 0 && loudness[one[0]] >= 5 * one[2]) {
                one[2] = 0;
            }
        }
        int more = 0;
        for (int[] one : folk) {
            if (loudness[one[0]] > 0 && one[2] == 0 && one[3] == 0) {
                one[3] = 1;
                more++;
            }
        }
        return more;
    }

    boolean knowsAlarm(int person) {
        index(person, folk);
        return folk.get(person)[3] == 1;
    }

    int unanswered() {
        int floors = 0;
        for (int floor = 0; floor <= 5 && alarmed; floor++) {
            boolean peopled = false;
            boolean answered = false;
            for (int[] one : folk) {
                if (rooms.get(one[0])[0] == floor) {
                    peopled = true;
                    answered |= one[3] == 1;
                }
            }
            floors += peopled && !answered ? 1 : 0;
        }
        return floors;
    }

    // Telephones, minutes and bills.

    int setLine(int room, int line) {
        index(room, rooms);
        range(line, -1, 3);
        unsupported(rooms.get(room)[2] == 0);
        int old = rooms.get(room)[3];
        rooms.get(room)[3] = line;
        return old;
    }

    private void phone(int person, int room) {
        int own = folk.get(person)[0];
        unsupported(folk.get(person)[2] > 0 || own == room);
        unsupported(rooms.get(own)[3] < 0 || rooms.get(room)[3] < 0);
    }

    int phoneSay(int person, int room) {
        index(person, folk);
        index(room, rooms);
        phone(person, room);
        unsupported(typed.isEmpty());
        state(news.size() == 40);
        News fresh = begin(person);
        int own = folk.get(person)[0];
        rooms.get(own)[4]++;
        spread(person, fresh, fresh.word, byLine(own, room));
        return news.size() - 1;
    }

    int phoneOn(int person, int room, int message) {
        index(person, folk);
        index(room, rooms);
        index(message, news);
        phone(person, room);
        News about = news.get(message);
        unsupported(lettersOf(about.heads[person]) == 0);
        int own = folk.get(person)[0];
        rooms.get(own)[4]++;
        return spread(person, about, told(about.heads[person]), byLine(own, room));
    }

    int pass(int minutes) {
        range(minutes, 1, 600);
        state(now + minutes > 9999);
        now += minutes;
        return now;
    }

    int bill(int room) {
        index(room, rooms);
        return rooms.get(room)[4];
    }

    // Sums.

    long checksum() {
        List<Integer> row = new ArrayList<>();
        for (int[] one : folk) {
            row.add(one[0]);
            row.add(one[2]);
        }
        for (News about : news) {
            for (int i = 0; i < folk.size(); i++) {
                row.add(lettersOf(about.heads[i]));
            }
        }
        for (Talk talk : talks) {
            row.add(talk.on ? 1 : 0);
        }
        for (int[] room : rooms) {
            row.add(room[4]);
        }
        row.add(now);
        long sum = 7;
        for (int number : row) {
            sum = sum * 31 + number;
        }
        return sum;
    }

    float rightShare() {
        missing(news.isEmpty());
        int right = 0;
        for (News about : news) {
            right += about.done.equals("d") ? 1 : 0;
        }
        return (float) right / (float) news.size();
    }

    double meanHeard() {
        int sum = 0;
        int pairs = 0;
        for (int i = 0; i < rooms.size(); i++) {
            for (int j = 0; j < rooms.size(); j++) {
                if (i != j && rooms.get(i)[2] == 1 && rooms.get(j)[2] == 1) {
                    sum += reaches(40, i, j);
                    pairs++;
                }
            }
        }
        missing(pairs == 0);
        return (double) sum / (double) pairs;
    }

    boolean isSound() {
        return true;
    }
}
