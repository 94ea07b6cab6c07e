/** The boundary cases of promises 1 to 5, a test for each sentence that names one. */
public final class DrawEdgesTest {
    private static final Rows ROWS = new Rows();

    public static void main(String[] args) {
        newObject();
        ploughmanOutOfRange();
        ploughmanRefused();
        noiseFull();
        drawRefused();
        drawUsesNoise();
        drawTakesNumbersWithoutSign();
        plot();
        ROWS.end();
    }

    private static void newObject() {
        ROWS.test("Promise 1: no PLOUGHMEN", """
            count(0) = 0
            plot(0) throws IndexOutOfBoundsException
            draw() = -2
            """);
        ROWS.test("Promise 1: no PLOTS", """
            count(1) = 0
            about(0, 0) throws IndexOutOfBoundsException
            """);
        ROWS.test("Promise 1: no MARKS", """
            count(2) = 0
            hard(0, 0) = 0
            hard(3, 4) = 0
            drawn(24)
            count(2) = 0
            told(0, 0) = -100000
            told(23, 4) = -100000
            mark(0, 0, 0, -1) = -1
            mark(3, 23, 4, -1) = -1
            """);
        ROWS.test("Promise 1: no lines", """
            count(4) = 0
            line(0, 0) throws IndexOutOfBoundsException
            points(0, 0) = 0
            points(9, max) = 0
            """);
        ROWS.test("Promise 1: the DAY is 0 at first", """
            count(5) = 0
            wait(0) = 0
            """);
        ROWS.test("Promise 1: no NOISE, and nothing on the TAPE", """
            count(6) = 0
            count(7) = 0
            """);
        ROWS.test("Promise 1: the RULE is \"final down\" at first", """
            count(3) = 1
            drawn(3)
            protest(0, 2) = 2
            protest(1, 1) = 1
            rank(0, 0) = 2
            rank(0, 1) = 1
            rank(0, 2) = 0
            """);
        ROWS.test("Promise 1: LIMIT is 200 at first", """
            limit(200) = 200
            """);
        ROWS.test("Promise 1: MINUTES are 0 at first, and nothing is taken off", """
            drawn(24)
            about(0, 3) = 0
            about(23, 3) = 0
            about(0, 4) = 0
            about(23, 4) = 0
            about(23, 5) = 0
            """);
    }

    private static void ploughmanOutOfRange() {
        ROWS.test("Promise 2: PLOUGHMEN are numbered from 0 on", """
            ploughman(0, 30, 0) = 0
            ploughman(0, 30, 0) = 1
            count(0) = 2
            """);
        ROWS.test("Promise 2: a CLASS is too small below 0", """
            ploughman(-1, 30, 3) throws IllegalArgumentException
            ploughman(min, 30, 3) throws IllegalArgumentException
            ploughman(0, 30, 3) = 0
            """);
        ROWS.test("Promise 2: a CLASS is too large above 2", """
            ploughman(3, 30, 3) throws IllegalArgumentException
            ploughman(max, 30, 3) throws IllegalArgumentException
            ploughman(2, 30, 3) = 0
            """);
        ROWS.test("Promise 2: an AGE is too small below 10", """
            ploughman(0, 9, 3) throws IllegalArgumentException
            ploughman(0, min, 3) throws IllegalArgumentException
            ploughman(0, 10, 3) = 0
            """);
        ROWS.test("Promise 2: an AGE is too large above 99", """
            ploughman(0, 100, 3) throws IllegalArgumentException
            ploughman(0, max, 3) throws IllegalArgumentException
            ploughman(0, 99, 3) = 0
            """);
        ROWS.test("Promise 2: a CLUB is too small below 0", """
            ploughman(0, 30, -1) throws IllegalArgumentException
            ploughman(0, 30, min) throws IllegalArgumentException
            ploughman(0, 30, 0) = 0
            """);
        ROWS.test("Promise 2: a CLUB is too large above 9", """
            ploughman(0, 30, 10) throws IllegalArgumentException
            ploughman(0, 30, max) throws IllegalArgumentException
            ploughman(0, 30, 9) = 0
            """);
    }

    private static void ploughmanRefused() {
        ROWS.test("Promise 2: 24 at most", """
            23 times ploughman(2, 99, 9)
            ploughman(0, 30, 0) = 23
            ploughman(0, 30, 0) throws IllegalStateException
            """);
        ROWS.test("Promise 2: the 25th leaves the 24 as they were", """
            24 times ploughman(1, 30, 4)
            2 times ploughman(0, 30, 5) throws IllegalStateException
            count(0) = 24
            plot(24) throws IndexOutOfBoundsException
            23 times noise(0)
            draw() = 24
            rank(0, 0) = -1
            rank(1, 23) = 23
            """);
        ROWS.test("Promise 2: PLOTS are DRAWN, none comes any more", """
            drawn(1)
            ploughman(0, 30, 0) throws IllegalStateException
            count(0) = 1
            count(1) = 1
            plot(1) throws IndexOutOfBoundsException
            rank(0, 1) = -1
            """);
        ROWS.test("Promise 2: one more can come while a draw is refused", """
            draw() = -2
            2 times ploughman(0, 30, 0)
            draw() = -1
            ploughman(0, 30, 0) = 2
            """);
        ROWS.test("Promise 2: a wrong argument leaves all as it was", """
            ploughman(1, 40, 7) = 0
            ploughman(2, 9, 3) throws IllegalArgumentException
            ploughman(2, 50, 10) throws IllegalArgumentException
            count(0) = 1
            plot(1) throws IndexOutOfBoundsException
            draw() = 1
            rank(1, 0) = 0
            rank(2, 0) = -1
            publish() = 1
            points(7, 0) = 10
            """);
        ROWS.test("Promise 2: an argument is told ahead of the state, as it is named first", """
            24 times ploughman(0, 30, 0)
            ploughman(3, 30, 0) throws IllegalArgumentException
            ploughman(0, 9, 0) throws IllegalArgumentException
            ploughman(0, 30, 10) throws IllegalArgumentException
            """);
    }

    private static void noiseFull() {
        ROWS.test("Promise 3: 30 numbers of NOISE at most", """
            noise(7) = 1
            28 times noise(7)
            noise(7) = 30
            noise(7) = -1
            count(6) = 30
            """);
        // with 0 and 0 the PLOTS are 1 2 0; a number put in the first one's stead would tell another draw
        ROWS.test("Promise 3: the 31st does nothing", """
            3 times ploughman(0, 30, 0)
            30 times noise(0)
            3 times noise(1) = -1
            count(6) = 30
            draw() = 3
            plot(0) = 1
            plot(1) = 2
            plot(2) = 0
            """);
        ROWS.test("Promise 3: any number can be one of NOISE", """
            noise(0) = 1
            noise(-1) = 2
            noise(min) = 3
            noise(max) = 4
            """);
        ROWS.test("Promise 3: behind the draw NOISE begins anew, and is full with 30 again", """
            30 times noise(3)
            ploughman(0, 30, 0) = 0
            draw() = 1
            noise(3) = 1
            28 times noise(3)
            noise(3) = 30
            noise(3) = -1
            """);
    }

    private static void drawRefused() {
        ROWS.test("Promise 4: there are no PLOUGHMEN", """
            draw() = -2
            count(1) = 0
            """);
        ROWS.test("Promise 4: there are no PLOUGHMEN, and NOISE stays", """
            30 times noise(3)
            draw() = -2
            count(6) = 30
            """);
        ROWS.test("Promise 4: no number is too few for two PLOUGHMEN", """
            2 times ploughman(0, 30, 0)
            draw() = -1
            noise(0) = 1
            draw() = 2
            """);
        ROWS.test("Promise 4: 22 numbers are too few for 24 PLOUGHMEN, 23 are not", """
            24 times ploughman(0, 30, 0)
            22 times noise(0)
            draw() = -1
            noise(0) = 23
            draw() = 24
            """);
        // the first numbers, 0 and 1, lead to 2 1 0; numbers lost with the refusal would lead to 0 1 2
        ROWS.test("Promise 4: with too few numbers nothing is drawn, and NOISE stays", """
            3 times ploughman(0, 30, 0)
            noise(0) = 1
            2 times draw() = -1
            count(6) = 1
            count(1) = 0
            plot(0) = -1
            about(0, 0) throws IndexOutOfBoundsException
            noise(1) = 2
            draw() = 3
            plot(0) = 2
            plot(1) = 1
            plot(2) = 0
            """);
        ROWS.test("Promise 4: they are DRAWN, once for all", """
            drawn(2)
            draw() throws IllegalStateException
            draw() throws IllegalStateException
            """);
        ROWS.test("Promise 4: a second draw leaves PLOTS and NOISE as they were", """
            drawn(3)
            2 times noise(0)
            draw() throws IllegalStateException
            count(6) = 2
            count(1) = 3
            plot(0) = 0
            plot(1) = 1
            plot(2) = 2
            """);
    }

    private static void drawUsesNoise() {
        ROWS.test("Promise 4: one PLOUGHMAN alone needs no number", """
            ploughman(0, 30, 0) = 0
            draw() = 1
            count(1) = 1
            plot(0) = 0
            """);
        ROWS.test("Promise 4: there are as many PLOTS as PLOUGHMEN then", """
            drawn(24)
            count(0) = 24
            count(1) = 24
            plot(23) = 23
            about(23, 6) = 23
            about(24, 6) throws IndexOutOfBoundsException
            """);
        ROWS.test("Promise 4: NOISE is empty then, also of the numbers that are left over", """
            ploughman(0, 30, 0) = 0
            30 times noise(5)
            draw() = 1
            count(6) = 0
            """);
        // 0 for place 2: 2 1 0; 1 for place 1: it stays. The other way round it would be 1 2 0
        ROWS.test("Promise 4: from the last place down to 1, one number after the other", """
            3 times ploughman(0, 30, 0)
            noise(0) = 1
            noise(1) = 2
            noise(0) = 3
            draw() = 3
            plot(0) = 2
            plot(1) = 1
            plot(2) = 0
            """);
        // 2 1 0, then 1 2 0: PLOUGHMAN 0 has PLOT 1, but PLOT 0 has PLOUGHMAN 2
        ROWS.test("Promise 4: PLOUGHMAN k has the PLOT at place k", """
            3 times ploughman(0, 30, 0)
            2 times noise(0)
            draw() = 3
            plot(0) = 1
            plot(1) = 2
            plot(2) = 0
            about(0, 6) = 2
            about(1, 6) = 0
            about(2, 6) = 1
            """);
        ROWS.test("Promise 4: the number i leaves i by i + 1, and the place changes with itself", """
            2 times ploughman(0, 30, 0)
            noise(1) = 1
            draw() = 2
            plot(0) = 0
            plot(1) = 1
            """);
        ROWS.test("Promise 4: the number i + 1 leaves 0 by i + 1", """
            2 times ploughman(0, 30, 0)
            noise(2) = 1
            draw() = 2
            plot(0) = 1
            plot(1) = 0
            """);
    }

    /** The numbers 3, 2, 1 behind the first one leave the other places as they are. */
    private static void drawTakesNumbersWithoutSign() {
        String fiveBy = """
            5 times ploughman(0, 30, 0)
            noise(%s) = 1
            noise(3) = 2
            noise(2) = 3
            noise(1) = 4
            draw() = 5
            plot(0) = %d
            plot(1) = %d
            plot(2) = %d
            plot(3) = %d
            plot(4) = %d
            """;
        ROWS.test("Promise 4: 0 is the least number, and leaves 0 by 5",
            fiveBy.formatted("0", 4, 1, 2, 3, 0));
        ROWS.test("Promise 4: -1 is 4,294,967,295 without sign, and leaves 0 by 5",
            fiveBy.formatted("-1", 4, 1, 2, 3, 0));
        ROWS.test("Promise 4: the least int is 2,147,483,648 without sign, and leaves 3 by 5",
            fiveBy.formatted("min", 0, 1, 2, 4, 3));
        ROWS.test("Promise 4: the greatest int is 2,147,483,647, and leaves 2 by 5",
            fiveBy.formatted("max", 0, 1, 4, 3, 2));
    }

    private static void plot() {
        ROWS.test("Promise 5: they are not DRAWN", """
            2 times ploughman(0, 30, 0)
            plot(0) = -1
            plot(1) = -1
            draw() = -1
            plot(1) = -1
            """);
        ROWS.test("Promise 5: no such PLOUGHMAN, ahead of the draw", """
            plot(0) throws IndexOutOfBoundsException
            2 times ploughman(0, 30, 0)
            plot(2) throws IndexOutOfBoundsException
            plot(-1) throws IndexOutOfBoundsException
            """);
        ROWS.test("Promise 5: no such PLOUGHMAN, behind the draw", """
            drawn(2)
            plot(1) = 1
            plot(2) throws IndexOutOfBoundsException
            plot(24) throws IndexOutOfBoundsException
            plot(max) throws IndexOutOfBoundsException
            plot(-1) throws IndexOutOfBoundsException
            plot(min) throws IndexOutOfBoundsException
            """);
        ROWS.test("Promise 5: no PLOUGHMAN 24 among 24", """
            drawn(24)
            plot(23) = 23
            plot(24) throws IndexOutOfBoundsException
            """);
    }
}
