import java.nio.charset.StandardCharsets;
import java.util.Arrays;
import java.util.function.IntSupplier;

/** What the tests of the project share: they count what is wrong and end with exit code 1 for it. */
final class Checks {
    private int wrong = 0;

    void due(String call, long got, long want) {
        if (got != want) {
            fail(call + " answered " + got + ", due is " + want);
        }
    }

    void throwsArgument(String call, IntSupplier action) {
        throwsKind(call, IllegalArgumentException.class, action);
    }

    void throwsIndex(String call, IntSupplier action) {
        throwsKind(call, IndexOutOfBoundsException.class, action);
    }

    void throwsState(String call, IntSupplier action) {
        throwsKind(call, IllegalStateException.class, action);
    }

    private void throwsKind(String call, Class<? extends RuntimeException> kind, IntSupplier action) {
        int answer;
        try {
            answer = action.getAsInt();
        } catch (RuntimeException thrown) {
            if (thrown.getClass() != kind) {
                fail(call + " threw " + thrown + ", due is " + kind.getSimpleName());
            }
            return;
        }
        fail(call + " answered " + answer + ", due is " + kind.getSimpleName());
    }

    void fail(String message) {
        wrong++;
        System.out.println(message);
    }

    void end() {
        if (wrong != 0) {
            System.out.println(wrong + " wrong");
            System.exit(1);
        }
    }

    /** Feeds a text, filled up with zero bytes. */
    static void feedText(PloughingMatch match, String text) {
        byte[] bytes = text.getBytes(StandardCharsets.ISO_8859_1);
        for (int from = 0; from < bytes.length; from += 20) {
            int[] numbers = packed(Arrays.copyOfRange(bytes, from, from + 20));
            match.feed(numbers[0], numbers[1], numbers[2], numbers[3], numbers[4]);
        }
    }

    /** Gives a text as the RULE. */
    static int ruleOf(PloughingMatch match, String text) {
        feedText(match, text);
        return match.rule(text.length());
    }

    /** Twenty bytes as five numbers, the highest byte first. */
    static int[] packed(byte[] bytes) {
        int[] numbers = new int[5];
        for (int k = 0; k < 20; k++) {
            numbers[k / 4] = numbers[k / 4] << 8 | bytes[k] & 255;
        }
        return numbers;
    }

    /** A match of so many PLOUGHMEN of CLASS 0, drawn so that PLOUGHMAN k has PLOT k. */
    static PloughingMatch inRow(int ploughmen) {
        PloughingMatch match = new PloughingMatch();
        enterAndDraw(match, ploughmen);
        return match;
    }

    static void enterAndDraw(PloughingMatch match, int ploughmen) {
        for (int k = 0; k < ploughmen; k++) {
            match.ploughman(0, 20 + k, k % 10);
        }
        drawInRow(match);
    }

    /** The number i leaves i by i + 1, so that each place changes with itself. */
    static void drawInRow(PloughingMatch match) {
        for (int i = match.count(0) - 1; i >= 1; i--) {
            match.noise(i);
        }
        match.draw();
    }
}
