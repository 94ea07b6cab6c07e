import java.nio.charset.StandardCharsets;
import java.util.ArrayList;
import java.util.Arrays;
import java.util.List;
import java.util.Random;

/** Long runs of calls, the same each time, whose answers must be those of the Model. */
public final class ModelTest {
    private static final int RUNS = 400;
    private static final int CALLS = 512;
    private static final int[] EDGES = {Integer.MIN_VALUE, Integer.MAX_VALUE, -2, -1, 0, 1, 24, 25, 600, 601, 1000, 1001};
    private static final String[] WORDS = {"final", "sum", "minutes", "age", "part", "up", "down", ",", " ", "  ",
        "0", "3", "4", "5", "9", "finals", "u", "x", "A", ";", "\u00e9", "\0"};
    private static final String[] LATE = {"mark", "mark", "mark", "mark", "mark", "mark", "hard", "told", "told",
        "about", "about", "about", "minutes", "limit", "rule", "rule", "rank", "rank", "rank", "protest", "publish",
        "publish", "points", "line", "wait", "count", "plot", "draw", "ploughman", "noise", "feed"};

    private final Checks checks = new Checks();
    private final List<String> told = new ArrayList<>();
    private Random random;
    private PloughingMatch match;
    private Model model;
    private int calls;
    private int members;

    public static void main(String[] args) {
        ModelTest test = new ModelTest();
        for (int seed = 0; seed < RUNS && test.told.isEmpty(); seed++) {
            test.run(seed);
        }
        test.checks.end();
    }

    private void run(int seed) {
        random = new Random(seed);
        match = new PloughingMatch();
        model = new Model();
        calls = 0;
        members = seed % 5 == 0 ? 24 : 1 + random.nextInt(24);
        int kinds = 1 + random.nextInt(3);
        for (int k = 0; k < members; k++) {
            compare(seed, "ploughman", random.nextInt(kinds), 10 + random.nextInt(seed % 2 == 0 ? 4 : 90),
                random.nextInt(10));
            anyEarly(seed);
        }
        for (int k = 1; k < members; k++) {
            compare(seed, "noise", random.nextInt());
        }
        compare(seed, "draw");
        while (calls < CALLS) {
            late(seed, LATE[random.nextInt(LATE.length)]);
        }
    }

    private void anyEarly(int seed) {
        if (random.nextInt(8) == 0) {
            late(seed, LATE[random.nextInt(LATE.length - 4)]);
        }
    }

    private void late(int seed, String name) {
        if (name.equals("rule") && random.nextInt(4) != 0) {
            ruleOf(seed, random.nextInt(3) == 0 ? randomText() : properText());
            return;
        }
        int[] a = ordinary(name);
        if (a.length > 0 && random.nextInt(12) == 0) {
            a[random.nextInt(a.length)] = EDGES[random.nextInt(EDGES.length)];
        }
        compare(seed, name, a);
    }

    private int[] ordinary(String name) {
        int plot = random.nextInt(members);
        return switch (name) {
            case "mark" -> new int[] {random.nextInt(4), plot, random.nextInt(5), random.nextInt(22) - 1};
            case "hard" -> new int[] {random.nextInt(4), random.nextInt(5)};
            case "told" -> new int[] {plot, random.nextInt(5)};
            case "about" -> new int[] {plot, random.nextInt(7)};
            case "minutes" -> new int[] {plot, random.nextInt(601)};
            case "limit" -> new int[] {random.nextInt(601)};
            case "rank" -> new int[] {random.nextInt(3), random.nextInt(8)};
            case "protest" -> new int[] {plot, 1 + random.nextInt(1000)};
            case "points" -> new int[] {random.nextInt(10), random.nextInt(40)};
            case "line" -> new int[] {random.nextInt(100), random.nextInt(3)};
            case "wait" -> new int[] {random.nextInt(3)};
            case "count" -> new int[] {random.nextInt(8)};
            case "plot", "rule" -> new int[] {random.nextInt(24)};
            case "ploughman" -> new int[] {0, 30, 0};
            case "noise" -> new int[] {random.nextInt()};
            case "feed" -> new int[] {random.nextInt(), 0, 0x61676520, 0x75702020, random.nextInt()};
            default -> new int[0];
        };
    }

    private String randomText() {
        StringBuilder text = new StringBuilder(properText());
        int changes = 1 + random.nextInt(2);
        for (int k = 0; k < changes; k++) {
            String word = WORDS[random.nextInt(WORDS.length)];
            int at = random.nextInt(text.length() + 1);
            text.replace(at, Math.min(text.length(), at + random.nextInt(4)), word);
        }
        return text.length() > 100 ? text.substring(0, 100) : text.toString();
    }

    private String properText() {
        StringBuilder text = new StringBuilder();
        int keys = 1 + random.nextInt(random.nextInt(3) == 0 ? 7 : 3);
        for (int k = 0; k < keys; k++) {
            int which = random.nextInt(5);
            text.append(k == 0 ? "" : ",").append(blanks()).append(WORDS[which]);
            if (which == 4) {
                text.append(blanks()).append(random.nextInt(5)).append(blanks());
            } else {
                text.append(' ');
            }
            text.append(WORDS[5 + random.nextInt(2)]);
        }
        return text.append(blanks()).toString();
    }

    private String blanks() {
        return random.nextInt(4) == 0 ? "  ".substring(random.nextInt(2)) : "";
    }

    /** Makes the TAPE empty first, so that the text stands at its start. */
    private void ruleOf(int seed, String text) {
        compare(seed, "rule", 0);
        byte[] bytes = text.getBytes(StandardCharsets.ISO_8859_1);
        for (int from = 0; from < bytes.length; from += 20) {
            compare(seed, "feed", Checks.packed(Arrays.copyOfRange(bytes, from, from + 20)));
        }
        compare(seed, "rule", bytes.length);
    }

    private void compare(int seed, String name, int... a) {
        calls++;
        String want = answer(true, name, a);
        String got = answer(false, name, a);
        if (!got.equals(want) && told.size() < 5) {
            told.add(name);
            checks.fail("seed " + seed + ", call " + calls + ": " + name + Arrays.toString(a) + " answered " + got
                + ", the model says " + want);
        }
    }

    private String answer(boolean ofModel, String name, int[] a) {
        try {
            return String.valueOf(ofModel ? model.call(name, a) : Calls.ask(match, name, a));
        } catch (RuntimeException thrown) {
            return "throws." + thrown.getClass().getSimpleName();
        }
    }
}
