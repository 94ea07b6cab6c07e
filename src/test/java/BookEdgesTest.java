/** The boundary cases of promises 15 to 20, a test for each sentence that names one. */
public final class BookEdgesTest {
    private static final Rows ROWS = new Rows();

    /**
     * A BOOK of 596 lines: 6 of the first PUBLISHED, and each turn of the order moves all ten CLUBS.
     * The PLOUGHMEN stand 9, 8, .. 0 in the end.
     */
    private static final String LINES_596 = """
        drawn(10)
        rule "age up" = 1
        publish() = 6
        rule "age down" = 1
        publish() = 10
        """ + """
        rule "age up"
        publish() = 10
        rule "age down"
        publish() = 10
        """.repeat(29) + """
        count(4) = 596
        rule "minutes down, age down" = 2
        publish() = 0
        """;

    public static void main(String[] args) {
        protest();
        publishAheadOfTheDraw();
        publishPoints();
        publishDifferences();
        publishFull();
        points();
        line();
        waitForDays();
        count();
        mostCalls();
        ROWS.end();
    }

    private static void protest() {
        ROWS.test("Promise 15: no PLOT is there ahead of the draw", """
            protest(0, 5) throws IndexOutOfBoundsException
            ploughman(0, 30, 0) = 0
            protest(0, 5) throws IndexOutOfBoundsException
            """);
        ROWS.test("Promise 15: a PLOT is too small below 0, too large above the last", """
            drawn(2)
            protest(-1, 5) throws IndexOutOfBoundsException
            protest(min, 5) throws IndexOutOfBoundsException
            protest(2, 5) throws IndexOutOfBoundsException
            protest(max, 5) throws IndexOutOfBoundsException
            protest(1, 5) = 5
            """);
        ROWS.test("Promise 15: what is taken off is too little below 1", """
            drawn(1)
            protest(0, 0) throws IllegalArgumentException
            protest(0, -1) throws IllegalArgumentException
            protest(0, min) throws IllegalArgumentException
            protest(0, 1) = 1
            """);
        ROWS.test("Promise 15: what is taken off is too much above 1,000", """
            drawn(1)
            protest(0, 1001) throws IllegalArgumentException
            protest(0, max) throws IllegalArgumentException
            protest(0, 1000) = 1000
            """);
        ROWS.test("Promise 15: in all it can be more than 1,000, of this PLOT alone", """
            drawn(2)
            protest(0, 1000) = 1000
            protest(0, 1000) = 2000
            protest(0, 1) = 2001
            about(0, 4) = 2001
            about(1, 4) = 0
            protest(1, 1) = 1
            """);
        ROWS.test("Promise 15: the PLOT is told ahead of so much, as it is named first", """
            drawn(1)
            protest(1, 0) throws IndexOutOfBoundsException
            protest(-1, 1001) throws IndexOutOfBoundsException
            """);
        ROWS.test("Promise 15: a refused PROTEST takes nothing off", """
            drawn(1)
            protest(0, 7) = 7
            protest(0, 0) throws IllegalArgumentException
            protest(0, 1001) throws IllegalArgumentException
            protest(1, 9) throws IndexOutOfBoundsException
            about(0, 4) = 7
            about(0, 5) = -7
            """);
    }

    private static void publishAheadOfTheDraw() {
        ROWS.test("Promise 16: PLOTS are not DRAWN, there are no PLOUGHMEN", """
            publish() = -1
            count(4) = 0
            """);
        ROWS.test("Promise 16: PLOTS are not DRAWN, and no lines come", """
            2 times ploughman(0, 30, 3)
            publish() = -1
            draw() = -1
            publish() = -1
            count(4) = 0
            points(3, 0) = 0
            noise(0) = 1
            draw() = 2
            publish() = 1
            """);
    }

    private static void publishPoints() {
        ROWS.test("Promise 16: the first six of a CLASS have 10, 6, 4, 3, 2, 1, the seventh has none", """
            drawn(7)
            rule "age up" = 1
            publish() = 6
            points(0, 0) = 10
            points(1, 0) = 6
            points(2, 0) = 4
            points(3, 0) = 3
            points(4, 0) = 2
            points(5, 0) = 1
            points(6, 0) = 0
            """);
        ROWS.test("Promise 16: the one PLOUGHMAN of a CLASS has 10", """
            ploughman(2, 30, 9) = 0
            draw() = 1
            publish() = 1
            points(9, 0) = 10
            """);
        ROWS.test("Promise 16: the first six of each CLASS, and what a CLUB has in all", """
            ploughman(0, 30, 4) = 0
            ploughman(1, 30, 4) = 1
            ploughman(2, 30, 4) = 2
            ploughman(2, 30, 4) = 3
            3 times noise(0)
            draw() = 4
            publish() = 1
            points(4, 0) = 36
            """);
        ROWS.test("Promise 16: 24 PLOUGHMEN of one CLUB have 26 POINTS", """
            24 times ploughman(1, 30, 0)
            23 times noise(0)
            draw() = 24
            publish() = 1
            points(0, 0) = 26
            """);
        ROWS.test("Promise 16: no line for a CLUB without POINTS, the lines by CLUB", """
            ploughman(0, 30, 9) = 0
            ploughman(0, 30, 1) = 1
            ploughman(0, 30, 5) = 2
            2 times noise(0)
            draw() = 3
            rule "age up" = 1
            publish() = 3
            count(4) = 3
            line(0, 1) = 1
            line(1, 1) = 5
            line(2, 1) = 9
            line(0, 2) = 6
            line(1, 2) = 4
            line(2, 2) = 10
            """);
    }

    private static void publishDifferences() {
        ROWS.test("Promise 16: no line where the BOOK tells it so far", """
            drawn(3)
            publish() = 3
            publish() = 0
            wait(5) = 5
            publish() = 0
            count(4) = 3
            """);
        ROWS.test("Promise 16: the difference can be below 0, a CLUB that stays has no line", """
            drawn(3)
            rule "age up" = 1
            publish() = 3
            rule "age down" = 1
            publish() = 2
            line(3, 1) = 0
            line(3, 2) = -6
            line(4, 1) = 2
            line(4, 2) = 6
            """);
        ROWS.test("Promise 16: a CLUB that falls behind the sixth loses all its POINTS", """
            drawn(7)
            rule "minutes down, age up" = 2
            publish() = 6
            minutes(6, 1) = 0
            publish() = 7
            points(5, 0) = 0
            line(11, 1) = 5
            line(11, 2) = -1
            line(12, 1) = 6
            line(12, 2) = 10
            """);
        // each CLUB wins one CLASS and is second in the other, ahead of the turn and behind it
        ROWS.test("Promise 16: no line where CLASSES change but the POINTS in all don't", """
            ploughman(0, 20, 1) = 0
            ploughman(0, 30, 2) = 1
            ploughman(1, 20, 2) = 2
            ploughman(1, 30, 1) = 3
            3 times noise(0)
            draw() = 4
            rule "age up" = 1
            publish() = 2
            points(1, 0) = 16
            rule "age down" = 1
            rank(0, 0) = 1
            rank(1, 0) = 3
            publish() = 0
            points(1, 0) = 16
            """);
    }

    private static void publishFull() {
        ROWS.test("Promise 16: 600 lines are not more than 600", LINES_596 + """
            minutes(6, 1) = 0
            publish() = 4
            count(4) = 600
            line(599, 1) = 9
            line(599, 2) = -4
            points(6, 0) = 10
            """);
        ROWS.test("Promise 16: -2, there would be 601 lines", LINES_596 + """
            minutes(5, 1) = 0
            publish() = -2
            """);
        ROWS.test("Promise 16: nothing changes, where there would be more than 600", LINES_596 + """
            minutes(5, 1) = 0
            2 times publish() = -2
            count(4) = 596
            line(596, 0) throws IndexOutOfBoundsException
            line(595, 1) = 9
            points(5, 0) = 2
            points(9, 0) = 10
            minutes(5, 0) = 1
            publish() = 0
            """);
        ROWS.test("Promise 16: fewer lines still come behind a refused PUBLISHED", LINES_596 + """
            minutes(5, 1) = 0
            publish() = -2
            minutes(5, 0) = 1
            minutes(8, 1) = 0
            publish() = 2
            count(4) = 598
            line(596, 1) = 8
            line(596, 2) = 4
            line(597, 1) = 9
            line(597, 2) = -4
            """);
        ROWS.test("Promise 16: a full BOOK takes no line, but 0 lines come where none is due", LINES_596 + """
            minutes(6, 1) = 0
            publish() = 4
            publish() = 0
            minutes(8, 2) = 0
            publish() = -2
            count(4) = 600
            minutes(8, 0) = 2
            publish() = 0
            """);
    }

    private static void points() {
        ROWS.test("Promise 17: a CLUB is too small below 0", """
            points(-1, 0) throws IllegalArgumentException
            points(min, 0) throws IllegalArgumentException
            points(0, 0) = 0
            """);
        ROWS.test("Promise 17: a CLUB is too large above 9", """
            points(10, 0) throws IllegalArgumentException
            points(max, 0) throws IllegalArgumentException
            points(9, 0) = 0
            """);
        ROWS.test("Promise 17: 0 ahead of the DAY of the first line", """
            drawn(1)
            wait(5) = 5
            publish() = 1
            points(0, 4) = 0
            points(0, 0) = 0
            points(0, -1) = 0
            points(0, min) = 0
            """);
        ROWS.test("Promise 17: a DAY's own lines are told behind its end", """
            drawn(1)
            wait(5) = 5
            publish() = 1
            points(0, 5) = 10
            """);
        ROWS.test("Promise 17: DAYS that are still to come are told what the BOOK tells so far", """
            drawn(1)
            publish() = 1
            points(0, 1) = 10
            points(0, max) = 10
            """);
        ROWS.test("Promise 17: all lines of one DAY, behind its end", """
            drawn(2)
            rule "age up" = 1
            publish() = 2
            rule "age down" = 1
            publish() = 2
            points(0, 0) = 6
            points(1, 0) = 10
            """);
        ROWS.test("Promise 17: what was known on a DAY stays behind later lines", """
            drawn(2)
            rule "age up" = 1
            publish() = 2
            wait(1) = 1
            rule "age down" = 1
            publish() = 2
            points(0, 0) = 10
            points(1, 0) = 6
            points(0, 1) = 6
            points(1, 1) = 10
            """);
        ROWS.test("Promise 17: what is not PUBLISHED yet is not told", """
            drawn(2)
            rule "age up" = 1
            points(0, 0) = 0
            publish() = 2
            rule "age down" = 1
            points(0, 0) = 10
            points(1, 0) = 6
            """);
        ROWS.test("Promise 17: a CLUB without lines has 0", """
            drawn(1)
            publish() = 1
            points(1, 0) = 0
            points(9, max) = 0
            """);
    }

    private static void line() {
        ROWS.test("Promise 18: there is none in an empty BOOK", """
            line(0, 0) throws IndexOutOfBoundsException
            line(-1, 0) throws IndexOutOfBoundsException
            """);
        ROWS.test("Promise 18: a line's number is too small below 0, too large above the last", """
            drawn(2)
            publish() = 2
            line(-1, 1) throws IndexOutOfBoundsException
            line(min, 1) throws IndexOutOfBoundsException
            line(2, 1) throws IndexOutOfBoundsException
            line(max, 1) throws IndexOutOfBoundsException
            line(0, 1) = 0
            line(1, 1) = 1
            """);
        ROWS.test("Promise 18: another what, below 0", """
            drawn(1)
            wait(3) = 3
            publish() = 1
            line(0, -1) throws IllegalArgumentException
            line(0, min) throws IllegalArgumentException
            line(0, 0) = 3
            """);
        ROWS.test("Promise 18: another what, above 2", """
            drawn(1)
            publish() = 1
            line(0, 3) throws IllegalArgumentException
            line(0, max) throws IllegalArgumentException
            line(0, 2) = 10
            """);
        ROWS.test("Promise 18: the line is told ahead of the what, as it is named first", """
            drawn(1)
            line(0, 3) throws IndexOutOfBoundsException
            publish() = 1
            line(1, 3) throws IndexOutOfBoundsException
            line(-1, -1) throws IndexOutOfBoundsException
            """);
        ROWS.test("Promise 18: no line 600 among 600", LINES_596 + """
            minutes(6, 1) = 0
            publish() = 4
            line(599, 0) = 0
            line(600, 0) throws IndexOutOfBoundsException
            """);
    }

    private static void waitForDays() {
        ROWS.test("Promise 19: DAYS are too few below 0", """
            wait(-1) throws IllegalArgumentException
            wait(min) throws IllegalArgumentException
            wait(0) = 0
            """);
        ROWS.test("Promise 19: DAYS are too many above 1,000", """
            wait(1001) throws IllegalArgumentException
            wait(max) throws IllegalArgumentException
            wait(1000) = 1000
            """);
        ROWS.test("Promise 19: 0 DAYS leave the DAY, and DAYS in all can be more than 1,000", """
            wait(1000) = 1000
            wait(0) = 1000
            wait(1000) = 2000
            wait(1) = 2001
            count(5) = 2001
            """);
        ROWS.test("Promise 19: refused DAYS leave the DAY as it was", """
            wait(7) = 7
            wait(-1) throws IllegalArgumentException
            wait(1001) throws IllegalArgumentException
            count(5) = 7
            wait(0) = 7
            """);
        ROWS.test("Promise 19: lines bear the DAY that it is, those of DAY 0 too", """
            drawn(2)
            rule "age up" = 1
            publish() = 2
            wait(1000) = 1000
            rule "age down" = 1
            publish() = 2
            line(1, 0) = 0
            line(2, 0) = 1000
            """);
    }

    private static void count() {
        ROWS.test("Promise 20: NONE for others, below 0", """
            count(-1) = -1
            count(min) = -1
            """);
        ROWS.test("Promise 20: NONE for others, above 7", """
            count(8) = -1
            count(max) = -1
            """);
        ROWS.test("Promise 20: each is 0 at first, but for one KEY", """
            count(0) = 0
            count(1) = 0
            count(2) = 0
            count(3) = 1
            count(4) = 0
            count(5) = 0
            count(6) = 0
            count(7) = 0
            """);
        ROWS.test("Promise 20: there are PLOUGHMEN but no PLOTS ahead of the draw", """
            24 times ploughman(0, 30, 0)
            count(0) = 24
            count(1) = 0
            """);
        ROWS.test("Promise 20: each where it is full", LINES_596 + """
            minutes(6, 1) = 0
            publish() = 4
            30 times noise(1)
            rule "sum up,sum up,sum up,sum up,sum up,sum up" = 6
            5 times feed(0, 0, 0, 0, 0)
            count(3) = 6
            count(4) = 600
            count(6) = 30
            count(7) = 100
            """);
        ROWS.test("Promise 20: MARKS are those that are there, put again or none", """
            drawn(1)
            2 times mark(0, 0, 0, 5)
            count(2) = 1
            2 times mark(0, 0, 0, -1)
            count(2) = 0
            """);
    }

    /** An object is used for at most 512 calls; these are still answered. */
    private static void mostCalls() {
        ROWS.test("Promise 19: the DAY behind 511 calls", """
            511 times wait(1000)
            count(5) = 511000
            """);
        ROWS.test("Promise 15: what 509 PROTESTS took off", """
            ploughman(0, 30, 0) = 0
            draw() = 1
            509 times protest(0, 1000)
            about(0, 5) = -509000
            """);
        StringBuilder marks = new StringBuilder();
        for (int k = 0; k < 460; k++) {
            marks.append("mark(%d, %d, %d, 20) = -1%n".formatted(k / 5 % 4, k / 20, k % 5));
        }
        ROWS.test("Promise 20: 460 MARKS of 24 PLOTS in 512 calls",
            "24 times ploughman(0, 30, 0)\n23 times noise(0)\ndraw() = 24\n" + marks + """
            count(2) = 460
            about(22, 0) = 10000
            about(23, 1) = 5
            hard(3, 4) = 0
            """);
    }
}
