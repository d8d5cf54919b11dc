import java.lang.reflect.InvocationTargetException;
import java.lang.reflect.Method;
import java.util.ArrayList;
import java.util.Arrays;
import java.util.HashMap;
import java.util.List;
import java.util.Map;

/**
 * Each number that a call takes, on both sides: the last one that is allowed, and the first that is not. A number
 * that is not allowed is refused ahead of all that the document lists after it, and changes nothing.
 */
public final class ArgumentsTest {
    /** Each call that takes a number, and the kinds of its arguments. */
    private static final String[] SPECS = {
        "addRoom floor digit bool", "setNoise room digit", "addPipe room room length digit digit",
        "setValve pipe bool", "clog pipe clog", "loses pipe", "strength room room", "heard room room",
        "wayLength room room", "wayAt room room place", "addPerson room digit", "sleep person digit",
        "depth person", "move person room", "whistle person room", "call person room", "hang call", "isOn call",
        "type letter", "say call", "tellOn call message", "tell person person message",
        "knows person message place", "letterAt person message place", "believes person message",
        "isRight person message", "fits person message", "source person message", "chain person message",
        "toldAt person message", "doIt person message", "fate message", "alarm person", "passOn person",
        "knowsAlarm person", "setLine room line", "phoneSay person room", "phoneOn person room message",
        "pass minutes", "bill room"};

    private static final List<String> INDEXES = List.of("room", "pipe", "person", "call", "message");

    /** The lowest and the highest number of each kind that has a range of its own. */
    private static final Map<String, int[]> RANGES = Map.of("floor", new int[] {0, 5}, "digit", new int[] {0, 9},
            "length", new int[] {1, 40}, "clog", new int[] {0, 40}, "line", new int[] {-1, 3},
            "minutes", new int[] {1, 600}, "letter", new int[] {'a', 'z'});

    /** A kind of house, how many of each of INDEXES it has, and numbers for which calls are refused later on. */
    private static final class Kind {
        final String name;
        final Refusals.Plan plan;
        final int[] counts;
        final int mute;
        final int[] unsuitable;

        Kind(String name, Refusals.Plan plan, int[] counts, int mute, int... unsuitable) {
            this.name = name;
            this.plan = plan;
            this.counts = counts;
            this.mute = mute;
            this.unsuitable = unsuitable;
        }
    }

    private static final Checks CHECKS = new Checks("ArgumentsTest");
    private static final Map<String, Method> FACE = new HashMap<>();

    public static void main(String[] args) {
        for (Method method : MouthpieceRow.class.getDeclaredMethods()) {
            if (java.lang.reflect.Modifier.isPublic(method.getModifiers())) {
                FACE.put(method.getName(), method);
            }
        }
        everyCallIsLookedAt();
        Kind[] kinds = {
            new Kind("empty", MouthpieceRow::new, new int[] {0, 0, 0, 0, 0}, 0, 0),
            new Kind("busy", Houses::busy, new int[] {5, 5, 6, 2, 2}, Houses.MUTE, 0, 2, 3),
            new Kind("full", Houses::full, new int[] {10, 16, 10, 60, 40}, 9, 0, 9)};
        for (Kind kind : kinds) {
            Refusals refusals = new Refusals(CHECKS, kind.name, kind.plan);
            for (String spec : SPECS) {
                String[] words = spec.split(" ");
                noSuchNumber(refusals, kind, words);
                outOfRange(refusals, kind, words);
                lastNumbers(kind, words);
            }
        }
        lastOfRange();
        CHECKS.end();
    }

    private static void everyCallIsLookedAt() {
        List<String> listed = new ArrayList<>();
        for (String spec : SPECS) {
            listed.add(spec.split(" ")[0]);
        }
        for (Method method : FACE.values()) {
            boolean takesOnlyBoolean = Arrays.equals(method.getParameterTypes(), new Class<?>[] {boolean.class});
            boolean isDue = method.getParameterCount() > 0 && !takesOnlyBoolean;
            CHECKS.same(method.getName() + " is listed", isDue, listed.contains(method.getName()));
        }
    }

    private static void noSuchNumber(Refusals refusals, Kind kind, String[] words) {
        for (int at = 1; at < words.length; at++) {
            int index = INDEXES.indexOf(words[at]);
            if (index < 0) {
                continue;
            }
            int[] wrong = {-1, kind.counts[index], Integer.MIN_VALUE, Integer.MAX_VALUE};
            for (int number : wrong) {
                for (int[] numbers : others(kind, words, true)) {
                    numbers[at - 1] = number;
                    refuse(refusals, words, numbers, Checks.INDEX);
                }
            }
        }
    }

    private static void outOfRange(Refusals refusals, Kind kind, String[] words) {
        if (kind.counts[0] == 0 && words.length > 1 && INDEXES.contains(words[1])) {
            return;
        }
        for (int at = 1; at < words.length; at++) {
            int[] range = RANGES.get(words[at]);
            if (range == null) {
                continue;
            }
            boolean isLetter = words[at].equals("letter");
            int[] wrong = {range[0] - 1, range[1] + 1, isLetter ? 0 : Integer.MIN_VALUE,
                isLetter ? Character.MAX_VALUE : Integer.MAX_VALUE};
            for (int number : wrong) {
                for (int[] numbers : others(kind, words, false)) {
                    numbers[at - 1] = number;
                    refuse(refusals, words, numbers, Checks.ARGUMENT);
                }
            }
        }
    }

    /** The first and the last of each are there: the call may be refused for another reason only. */
    private static void lastNumbers(Kind kind, String[] words) {
        for (int at = 1; at < words.length; at++) {
            int index = INDEXES.indexOf(words[at]);
            if (index < 0 || kind.counts[index] == 0) {
                continue;
            }
            for (int number : new int[] {0, kind.counts[index] - 1}) {
                int[] numbers = others(kind, words, false).get(0);
                numbers[at - 1] = number;
                String answer = answer(kind.plan.build(), words, numbers);
                CHECKS.same(kind.name + ", " + words[0] + Arrays.toString(numbers) + " is known", false,
                        answer.equals(Checks.INDEX.getName()));
            }
        }
    }

    private static void lastOfRange() {
        Kind busy = new Kind("busy", Houses::busy, null, 0, 1);
        for (String spec : SPECS) {
            String[] words = spec.split(" ");
            for (int at = 1; at < words.length; at++) {
                int[] range = RANGES.get(words[at]);
                for (int side = 0; range != null && side < 2; side++) {
                    int[] numbers = others(busy, words, false).get(0);
                    if (words[1].equals("person")) {
                        numbers[0] = 1;
                    }
                    numbers[at - 1] = range[side];
                    String answer = answer(busy.plan.build(), words, numbers);
                    CHECKS.same(words[0] + Arrays.toString(numbers) + " is allowed: " + answer, true,
                            answer.startsWith("answer "));
                }
            }
        }
    }

    /**
     * Rows of arguments: suitable ones, ones for which the call would be refused by a later reason, and ones that
     * are all wrong by themselves; in the last, room numbers and their like are wrong only if that is asked for.
     */
    private static List<int[]> others(Kind kind, String[] words, boolean mayIndexBeWrong) {
        List<int[]> rows = new ArrayList<>();
        rows.add(row(words, -1, -1, false, false));
        for (int person : kind.unsuitable) {
            rows.add(row(words, person, kind.mute, false, false));
            rows.add(row(words, person, kind.mute, true, false));
        }
        rows.add(row(words, -1, -1, true, mayIndexBeWrong));
        return rows;
    }

    /** Persons and rooms below 0 stand for those that have the same number as their place among their like. */
    private static int[] row(String[] words, int person, int room, boolean isWrong, boolean isIndexWrong) {
        int[] numbers = new int[words.length - 1];
        int people = 0;
        int rooms = 0;
        for (int i = 0; i < numbers.length; i++) {
            String word = words[i + 1];
            int[] range = RANGES.get(word);
            if (range != null) {
                numbers[i] = isWrong ? range[1] + 1 : range[0];
            } else if (INDEXES.contains(word) && isIndexWrong) {
                numbers[i] = -1;
            } else if (word.equals("person")) {
                numbers[i] = person < 0 ? people++ : person;
            } else if (word.equals("room")) {
                numbers[i] = room < 0 ? rooms++ : room;
            } else if (word.equals("place")) {
                numbers[i] = isWrong ? -1 : 0;
            }
        }
        return numbers;
    }

    private static void refuse(Refusals refusals, String[] words, int[] numbers,
            Class<? extends RuntimeException> due) {
        refusals.refuse(words[0] + Arrays.toString(numbers), due, house -> invoke(house, words, numbers));
    }

    private static String answer(MouthpieceRow house, String[] words, int[] numbers) {
        try {
            return "answer " + invoke(house, words, numbers);
        } catch (RuntimeException e) {
            return Checks.thrown(e);
        }
    }

    private static Object invoke(MouthpieceRow house, String[] words, int[] numbers) {
        Object[] values = new Object[numbers.length];
        for (int i = 0; i < values.length; i++) {
            boolean isLetter = words[i + 1].equals("letter");
            values[i] = isLetter ? (Object) (char) numbers[i] : (Object) numbers[i];
            if (words[i + 1].equals("bool")) {
                values[i] = numbers[i] == 1;
            }
        }
        try {
            return FACE.get(words[0]).invoke(house, values);
        } catch (InvocationTargetException e) {
            if (e.getCause() instanceof RuntimeException) {
                throw (RuntimeException) e.getCause();
            }
            throw new AssertionError(e.getCause());
        } catch (IllegalAccessException e) {
            throw new AssertionError(e);
        }
    }
}
