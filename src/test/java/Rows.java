import java.util.HashSet;
import java.util.Set;
import java.util.regex.Matcher;
import java.util.regex.Pattern;

/**
 * Tests written as rows of calls on a new object, each with the answer that is due:
 *
 * <pre>
 *   ploughman(0, 30, 3) = 0
 *   plot(1) throws IndexOutOfBoundsException
 *   23 times noise(5)        a row without an answer makes the call alone
 *   drawn(3)                 PLOUGHMEN 0, 1, 2 of CLASS 0, AGE 20 + k, CLUB k; k has PLOT k
 *   text "final up"          fed, and filled up with zero bytes
 *   rule "final up" = 1      fed, and read by its length
 * </pre>
 *
 * The numbers min and max are the least and the greatest int.
 */
final class Rows {
    private static final Pattern ROW = Pattern.compile(
        "(?:(\\d+) times )?(\\w+)(?:\\((.*?)\\)| \"(.*)\")(?: = (-?\\d+)| throws (\\w+))?");

    private final Checks checks = new Checks();
    private final Set<String> titles = new HashSet<>();

    /** A title names the promise that is broken if a row is not as due. */
    void test(String title, String rows) {
        if (!title.matches("Promise ([1-9]|1\\d|20): .+") || !titles.add(title)) {
            checks.fail("this title names no promise, or is there twice: " + title);
        }
        PloughingMatch match = new PloughingMatch();
        int looked = 0;
        for (String row : rows.split("\n")) {
            Matcher parts = ROW.matcher(row.trim());
            if (!parts.matches()) {
                checks.fail(title + ": this is no row: " + row);
                return;
            }
            String want = parts.group(5) != null ? parts.group(5) : parts.group(6);
            looked += want == null ? 0 : 1;
            make(title, match, parts, want);
        }
        if (looked == 0) {
            checks.fail(title + ": no row looks at an answer");
        }
    }

    void end() {
        checks.end();
    }

    private void make(String title, PloughingMatch match, Matcher parts, String want) {
        int times = parts.group(1) == null ? 1 : Integer.parseInt(parts.group(1));
        for (int k = 0; k < times; k++) {
            String got = answer(match, parts);
            boolean asDue = want == null ? got.matches("-?\\d+") : got.equals(want);
            if (!asDue) {
                checks.fail(title + ": " + parts.group() + " answered " + got);
                return;
            }
        }
    }

    private static String answer(PloughingMatch match, Matcher parts) {
        try {
            return String.valueOf(parts.group(4) != null
                ? makeWithText(match, parts.group(2), parts.group(4))
                : makeWithNumbers(match, parts.group(2), Calls.numbers(parts.group(3))));
        } catch (RuntimeException thrown) {
            return thrown.getClass().getSimpleName();
        }
    }

    private static int makeWithText(PloughingMatch match, String name, String text) {
        if (name.equals("rule")) {
            return Checks.ruleOf(match, text);
        }
        if (name.equals("text")) {
            Checks.feedText(match, text);
            return match.count(7);
        }
        throw new UnsupportedOperationException("no text goes with " + name);
    }

    private static int makeWithNumbers(PloughingMatch match, String name, int[] numbers) {
        if (name.equals("drawn")) {
            Checks.enterAndDraw(match, numbers[0]);
            return match.count(1);
        }
        return Calls.ask(match, name, numbers);
    }
}
