import java.lang.reflect.InvocationTargetException;
import java.lang.reflect.Method;
import java.util.ArrayList;
import java.util.HashMap;
import java.util.List;
import java.util.Map;
import java.util.Random;
import java.util.TreeMap;

/** Long pseudo-random runs, always the same ones, answered alike by the class and by the model. */
public final class ModelTest {
    private static final int RUNS = 600;
    private static final int CALLS = 512;

    /** A call, how often it comes, and a word for each argument; see argument(). */
    private static final String[] SPECS = {
        "addRoom 3 floor digit bool", "setNoise 5 room digit", "addPipe 6 room room length bends bends",
        "setValve 8 pipe valve", "clog 5 pipe clog", "loses 3 pipe", "strength 4 room room", "heard 4 room room",
        "wayLength 4 room room", "wayAt 5 room room place", "addPerson 3 room digit", "sleep 6 person depth",
        "depth 4 person", "move 10 person room", "whistle 8 person room", "call 24 person room", "hang 5 call",
        "isOn 4 call", "interrupted 2", "type 60 letter", "wipe 1", "addOrder 4", "setCode 2 bool",
        "say 10 call", "tellOn 16 call message", "tell 12 person person message", "knows 6 person message place",
        "letterAt 8 person message place", "believes 5 person message", "isRight 6 person message",
        "fits 5 person message", "source 6 person message", "chain 6 person message", "toldAt 5 person message",
        "doIt 4 person message", "fate 6 message", "alarm 3 person", "passOn 8 person", "knowsAlarm 4 person",
        "unanswered 4", "setLine 5 room line", "phoneSay 4 person room", "phoneOn 8 person room message",
        "pass 3 minutes", "bill 4 room", "checksum 8", "rightShare 2", "meanHeard 2", "isSound 3"};

    private static final Checks CHECKS = new Checks("ModelTest");
    private static final Map<String, Method> REAL = new HashMap<>();
    private static final Map<String, Method> MODEL = new HashMap<>();
    /** How often each call answered, and how often it threw each exception: no way out may stay untried. */
    private static final Map<String, Integer> SEEN = new TreeMap<>();

    public static void main(String[] args) throws Exception {
        for (Method method : MouthpieceRow.class.getDeclaredMethods()) {
            if (java.lang.reflect.Modifier.isPublic(method.getModifiers())) {
                REAL.put(method.getName(), method);
            }
        }
        for (Method method : Model.class.getDeclaredMethods()) {
            if (REAL.containsKey(method.getName())) {
                MODEL.put(method.getName(), method);
            }
        }
        CHECKS.same("calls of the face that are tried", REAL.keySet().size(), SPECS.length);
        for (int i = 0; i < RUNS; i++) {
            String wrong = run(i);
            CHECKS.same("run " + i, "as the model", wrong);
        }
        lookAtSeen();
        CHECKS.end();
    }

    private static void lookAtSeen() {
        for (Method method : REAL.values()) {
            CHECKS.same(method.getName() + " answered", true, SEEN.containsKey(method.getName()));
            for (Class<?> thrown : method.getExceptionTypes()) {
                String way = method.getName() + " throws " + thrown.getName();
                CHECKS.same(way, true, SEEN.containsKey(way));
            }
        }
    }

    private static String run(int seed) throws Exception {
        Random random = new Random(seed);
        MouthpieceRow real = new MouthpieceRow();
        Model model = new Model();
        int made = build(random, real, model);
        List<String> bag = bag(random);
        StringBuilder log = new StringBuilder();
        for (int used = made; used < CALLS; used++) {
            String[] spec = spec(bag, random, model);
            Method method = REAL.get(spec[0]);
            Object[] values = new Object[spec.length - 2];
            for (int k = 0; k < values.length; k++) {
                values[k] = argument(spec[k + 2], random, model);
            }
            String got = outcome(method, real, values);
            String want = outcome(MODEL.get(spec[0]), model, values);
            String call = spec[0] + java.util.Arrays.toString(values);
            log.append(call).append(" = ").append(want).append('\n');
            SEEN.merge(want.startsWith("throws ") ? spec[0] + " " + want : spec[0], 1, Integer::sum);
            if (!got.equals(want)) {
                return log + "but " + call + " answered " + got;
            }
            if (want.startsWith("throws ") && used + 1 < CALLS) {
                used++;
                if (real.checksum() != model.checksum()) {
                    return log + "but the throwing call changed something";
                }
            }
        }
        return "as the model";
    }

    /** Nothing can be said of nothing, so a letter often goes before it. */
    private static String[] spec(List<String> bag, Random random, Model model) {
        String spec = bag.get(random.nextInt(bag.size()));
        boolean isOfWord = spec.startsWith("say") || spec.startsWith("phoneSay") || spec.startsWith("addOrder");
        if (isOfWord && model.typed.isEmpty() && random.nextInt(8) > 0) {
            spec = "type 60 letter";
        }
        return spec.split(" ");
    }

    /** Most runs begin with a house, since random calls alone seldom make a good one. */
    private static int build(Random random, MouthpieceRow real, Model model) {
        if (random.nextInt(12) == 0) {
            return 0;
        }
        int rooms = 2 + random.nextInt(9);
        int pipes = rooms - 1 + random.nextInt(18 - rooms);
        int people = 1 + random.nextInt(10);
        for (int i = 0; i < rooms; i++) {
            int floor = random.nextInt(6);
            int noise = random.nextInt(10);
            boolean hasMouthpiece = i == 0 || random.nextInt(5) > 0;
            real.addRoom(floor, noise, hasMouthpiece);
            model.addRoom(floor, noise, hasMouthpiece);
        }
        for (int i = 0; i < pipes; i++) {
            int one = i < rooms - 1 ? i + 1 : random.nextInt(rooms);
            int other = i < rooms - 1 ? random.nextInt(i + 1) : (one + 1 + random.nextInt(rooms - 1)) % rooms;
            int length = 1 + random.nextInt(12);
            int bends = random.nextInt(8) == 0 ? random.nextInt(4) : 0;
            real.addPipe(one, other, length, bends, 0);
            model.addPipe(one, other, length, bends, 0);
        }
        for (int i = 0; i < people; i++) {
            int room = random.nextInt(rooms);
            room = model.rooms.get(room)[2] == 1 ? room : 0;
            int rank = random.nextInt(10);
            real.addPerson(room, rank);
            model.addPerson(room, rank);
        }
        return rooms + pipes + people;
    }

    /** Each run likes some calls more than others, so that limits are met which an even mix never meets. */
    private static List<String> bag(Random random) {
        List<String> bag = new ArrayList<>();
        for (String spec : SPECS) {
            int often = Integer.parseInt(spec.split(" ")[1]) * (random.nextInt(12) == 0 ? 20 : 1);
            for (int i = 0; i < often; i++) {
                bag.add(spec);
            }
        }
        return bag;
    }

    private static Object argument(String kind, Random random, Model model) {
        boolean isWild = random.nextInt(40) == 0;
        switch (kind) {
            case "bool":
                return random.nextBoolean();
            case "valve":
                return random.nextInt(3) > 0;
            case "letter":
                // Few letters, so that orders are like messages.
                return isWild ? (char) random.nextInt(300) : "atnatn".charAt(random.nextInt(6));
            case "room":
                return number(random, isWild, model.rooms.size());
            case "pipe":
                return number(random, isWild, model.tubes.size());
            case "person":
                return number(random, isWild, model.folk.size());
            case "message":
                return number(random, isWild, model.news.size());
            case "call":
                return random.nextInt(4) > 0 ? callOn(random, model) : number(random, isWild, model.talks.size());
            case "place":
                return number(random, isWild, 4);
            case "floor":
                return number(random, isWild, 6);
            case "length":
                return isWild ? number(random, true, 41) : 1 + random.nextInt(40);
            case "bends":
                return isWild ? number(random, true, 10) : random.nextInt(3);
            case "clog":
                return isWild ? number(random, true, 41) : random.nextInt(random.nextBoolean() ? 41 : 3);
            case "depth":
                return isWild ? number(random, true, 10) : Math.max(0, random.nextInt(18) - 8);
            case "line":
                return isWild ? number(random, true, 4) : random.nextInt(5) - 1;
            case "minutes":
                return isWild ? number(random, true, 601) : 1 + random.nextInt(600);
            default:
                return number(random, isWild, 10);
        }
    }

    private static int callOn(Random random, Model model) {
        int calls = model.talks.size();
        for (int i = 0; i < calls; i++) {
            int call = random.nextInt(calls);
            if (model.talks.get(call).on) {
                return call;
            }
        }
        return calls - 1;
    }

    private static int number(Random random, boolean isWild, int end) {
        if (isWild || end == 0) {
            int[] edges = {-1, end, end + 1, -2, Integer.MIN_VALUE, Integer.MAX_VALUE, 0, end - 1};
            return edges[random.nextInt(edges.length)];
        }
        return random.nextInt(end);
    }

    private static String outcome(Method method, Object owner, Object[] values) throws Exception {
        try {
            return String.valueOf(method.invoke(owner, values));
        } catch (InvocationTargetException e) {
            Throwable cause = e.getCause();
            return "throws " + (owner instanceof Model ? cause.getClass().getName() : Checks.thrown(cause));
        }
    }
}
