/** The boundary cases of promises 6 to 11, a test for each sentence that names one. */
public final class MarksEdgesTest {
    private static final Rows ROWS = new Rows();

    public static void main(String[] args) {
        markOutOfRange();
        markAndNone();
        hardOutOfRange();
        hardOfPairs();
        told();
        toldFloored();
        aboutOutOfRange();
        sumAndUntold();
        groundAtTheEnds();
        groundFloored();
        finalOfAPlot();
        minutes();
        limit();
        minutesAboveLimit();
        ROWS.end();
    }

    private static void markOutOfRange() {
        ROWS.test("Promise 6: no PLOT is there ahead of the draw", """
            mark(0, 0, 0, 5) throws IndexOutOfBoundsException
            2 times ploughman(0, 30, 0)
            mark(0, 0, 0, 5) throws IndexOutOfBoundsException
            draw() = -1
            mark(0, 1, 0, 5) throws IndexOutOfBoundsException
            """);
        ROWS.test("Promise 6: a PLOT is too small below 0", """
            drawn(2)
            mark(0, -1, 0, 5) throws IndexOutOfBoundsException
            mark(0, min, 0, 5) throws IndexOutOfBoundsException
            mark(0, 0, 0, 5) = -1
            """);
        ROWS.test("Promise 6: a PLOT is too large above the last", """
            drawn(2)
            mark(0, 2, 0, 5) throws IndexOutOfBoundsException
            mark(0, 24, 0, 5) throws IndexOutOfBoundsException
            mark(0, max, 0, 5) throws IndexOutOfBoundsException
            mark(0, 1, 0, 5) = -1
            """);
        ROWS.test("Promise 6: no PLOT 24 among 24", """
            drawn(24)
            mark(0, 24, 0, 5) throws IndexOutOfBoundsException
            mark(0, 23, 0, 5) = -1
            """);
        ROWS.test("Promise 6: a JUDGE is too small below 0", """
            drawn(1)
            mark(-1, 0, 0, 5) throws IllegalArgumentException
            mark(min, 0, 0, 5) throws IllegalArgumentException
            mark(0, 0, 0, 5) = -1
            """);
        ROWS.test("Promise 6: a JUDGE is too large above 3", """
            drawn(1)
            mark(4, 0, 0, 5) throws IllegalArgumentException
            mark(max, 0, 0, 5) throws IllegalArgumentException
            mark(3, 0, 0, 5) = -1
            """);
        ROWS.test("Promise 6: a PART is too small below 0", """
            drawn(1)
            mark(0, 0, -1, 5) throws IllegalArgumentException
            mark(0, 0, min, 5) throws IllegalArgumentException
            mark(0, 0, 0, 5) = -1
            """);
        ROWS.test("Promise 6: a PART is too large above 4", """
            drawn(1)
            mark(0, 0, 5, 5) throws IllegalArgumentException
            mark(0, 0, max, 5) throws IllegalArgumentException
            mark(0, 0, 4, 5) = -1
            """);
        ROWS.test("Promise 6: a MARK is too small below -1", """
            drawn(1)
            mark(0, 0, 0, -2) throws IllegalArgumentException
            mark(0, 0, 0, min) throws IllegalArgumentException
            mark(0, 0, 0, -1) = -1
            """);
        ROWS.test("Promise 6: a MARK is too large above 20", """
            drawn(1)
            mark(0, 0, 0, 21) throws IllegalArgumentException
            mark(0, 0, 0, max) throws IllegalArgumentException
            mark(0, 0, 0, 20) = -1
            """);
        ROWS.test("Promise 6: the PLOT is told ahead of the arguments, as it is named first", """
            drawn(1)
            mark(4, 1, 0, 5) throws IndexOutOfBoundsException
            mark(0, 1, 5, 5) throws IndexOutOfBoundsException
            mark(0, 1, 0, 21) throws IndexOutOfBoundsException
            """);
        ROWS.test("Promise 6: a refused MARK leaves all as it was", """
            drawn(2)
            mark(0, 0, 0, 7) = -1
            mark(0, 0, 0, 21) throws IllegalArgumentException
            mark(0, 0, 0, -2) throws IllegalArgumentException
            mark(4, 0, 0, 3) throws IllegalArgumentException
            mark(0, 0, 5, 3) throws IllegalArgumentException
            mark(0, 2, 0, 3) throws IndexOutOfBoundsException
            count(2) = 1
            told(0, 0) = 700
            told(1, 0) = -100000
            mark(1, 0, 0, -1) = -1
            mark(0, 1, 0, -1) = -1
            mark(0, 0, 0, 7) = 7
            """);
    }

    private static void markAndNone() {
        ROWS.test("Promise 6: what it was, -1 for none", """
            drawn(1)
            mark(0, 0, 0, 5) = -1
            mark(0, 0, 0, 6) = 5
            mark(0, 0, 0, -1) = 6
            mark(0, 0, 0, 5) = -1
            """);
        ROWS.test("Promise 6: 0 is a MARK, not none", """
            drawn(1)
            mark(0, 0, 0, 0) = -1
            count(2) = 1
            told(0, 0) = 0
            mark(0, 0, 0, -1) = 0
            count(2) = 0
            """);
        ROWS.test("Promise 6: none where none was changes nothing", """
            drawn(1)
            mark(0, 0, 0, 5) = -1
            mark(1, 0, 0, -1) = -1
            count(2) = 1
            told(0, 0) = 500
            """);
        ROWS.test("Promise 6: the MARKS at the ends of the sheet are apart from all others", """
            drawn(24)
            mark(0, 0, 0, 1) = -1
            mark(3, 23, 4, 2) = -1
            mark(0, 23, 4, 3) = -1
            mark(3, 0, 4, 4) = -1
            mark(3, 23, 0, 5) = -1
            mark(0, 0, 4, 6) = -1
            mark(0, 23, 0, 7) = -1
            mark(3, 0, 0, 8) = -1
            count(2) = 8
            mark(0, 0, 0, 1) = 1
            mark(3, 23, 4, 2) = 2
            mark(0, 23, 4, 3) = 3
            mark(3, 0, 4, 4) = 4
            mark(3, 23, 0, 5) = 5
            mark(0, 0, 4, 6) = 6
            mark(0, 23, 0, 7) = 7
            mark(3, 0, 0, 8) = 8
            """);
    }

    private static void hardOutOfRange() {
        ROWS.test("Promise 7: a JUDGE is too small below 0", """
            hard(-1, 0) throws IllegalArgumentException
            hard(min, 0) throws IllegalArgumentException
            hard(0, 0) = 0
            """);
        ROWS.test("Promise 7: a JUDGE is too large above 3", """
            hard(4, 0) throws IllegalArgumentException
            hard(max, 0) throws IllegalArgumentException
            hard(3, 0) = 0
            """);
        ROWS.test("Promise 7: a PART is too small below 0", """
            hard(0, -1) throws IllegalArgumentException
            hard(0, min) throws IllegalArgumentException
            hard(0, 0) = 0
            """);
        ROWS.test("Promise 7: a PART is too large above 4", """
            hard(0, 5) throws IllegalArgumentException
            hard(0, max) throws IllegalArgumentException
            hard(0, 4) = 0
            """);
    }

    private static void hardOfPairs() {
        ROWS.test("Promise 7: 0 without pairs, where he alone has MARKS", """
            drawn(1)
            mark(0, 0, 0, 7) = -1
            hard(0, 0) = 0
            """);
        ROWS.test("Promise 7: 0 without pairs, where others have MARKS of other PLOTS", """
            drawn(2)
            mark(0, 0, 0, 7) = -1
            mark(1, 1, 0, 9) = -1
            hard(0, 0) = 0
            hard(1, 0) = 0
            """);
        ROWS.test("Promise 7: 0 without pairs, where others have MARKS in other PARTS", """
            drawn(1)
            mark(0, 0, 0, 7) = -1
            mark(1, 0, 1, 9) = -1
            hard(0, 0) = 0
            hard(1, 1) = 0
            """);
        ROWS.test("Promise 7: 0 without pairs, where he has no MARKS and others have", """
            drawn(1)
            mark(0, 0, 0, 7) = -1
            mark(1, 0, 0, 9) = -1
            hard(3, 0) = 0
            """);
        ROWS.test("Promise 7: 0 without pairs, when the other's MARK is none again", """
            drawn(1)
            mark(0, 0, 0, 7) = -1
            mark(1, 0, 0, 9) = -1
            hard(0, 0) = 200
            mark(1, 0, 0, -1) = 9
            hard(0, 0) = 0
            hard(1, 0) = 0
            """);
        ROWS.test("Promise 7: a MARK of 0 makes a pair", """
            drawn(1)
            mark(0, 0, 0, 0) = -1
            mark(1, 0, 0, 3) = -1
            hard(0, 0) = 300
            hard(1, 0) = -300
            """);
        ROWS.test("Promise 7: the greatest and the least HARD", """
            drawn(1)
            mark(0, 0, 4, 0) = -1
            mark(3, 0, 4, 20) = -1
            hard(0, 4) = 2000
            hard(3, 4) = -2000
            """);
        ROWS.test("Promise 7: floored, where the number is above 0 and below 0", """
            drawn(3)
            mark(0, 0, 1, 5) = -1
            mark(1, 0, 1, 6) = -1
            mark(0, 1, 1, 5) = -1
            mark(1, 1, 1, 5) = -1
            mark(0, 2, 1, 5) = -1
            mark(1, 2, 1, 5) = -1
            hard(0, 1) = 33
            hard(1, 1) = -34
            """);
        // the others of JUDGE 0 are 1, 1 and 0 above him; those of JUDGE 1 are 1, 0 and 1 below him
        ROWS.test("Promise 7: each other JUDGE of one PLOT is a pair", """
            drawn(1)
            mark(0, 0, 0, 0) = -1
            mark(1, 0, 0, 1) = -1
            mark(2, 0, 0, 1) = -1
            mark(3, 0, 0, 0) = -1
            hard(0, 0) = 66
            hard(1, 0) = -67
            hard(2, 0) = -67
            hard(3, 0) = 66
            """);
        StringBuilder all = new StringBuilder("drawn(24)\n");
        for (int plot = 0; plot < 24; plot++) {
            for (int judge = 0; judge < 4; judge++) {
                all.append("mark(%d, %d, 2, %d) = -1%n".formatted(judge, plot, plot == 23 ? 20 - judge : judge));
            }
        }
        // 23 PLOTS with 1 + 2 + 3 and one with -1 - 2 - 3, by 72; 22 times 2 by 72 for JUDGE 1
        ROWS.test("Promise 7: 72 pairs, where all JUDGES have MARKS of 24 PLOTS", all + """
            count(2) = 96
            hard(0, 2) = 183
            hard(1, 2) = 61
            hard(2, 2) = -62
            hard(3, 2) = -184
            hard(0, 1) = 0
            """);
    }

    private static void told() {
        ROWS.test("Promise 8: no PLOT is there ahead of the draw", """
            told(0, 0) throws IndexOutOfBoundsException
            ploughman(0, 30, 0) = 0
            told(0, 0) throws IndexOutOfBoundsException
            """);
        ROWS.test("Promise 8: a PLOT is too small below 0, too large above the last", """
            drawn(2)
            told(-1, 0) throws IndexOutOfBoundsException
            told(min, 0) throws IndexOutOfBoundsException
            told(2, 0) throws IndexOutOfBoundsException
            told(max, 0) throws IndexOutOfBoundsException
            told(1, 0) = -100000
            """);
        ROWS.test("Promise 8: a PART is too small below 0", """
            drawn(1)
            told(0, -1) throws IllegalArgumentException
            told(0, min) throws IllegalArgumentException
            told(0, 0) = -100000
            """);
        ROWS.test("Promise 8: a PART is too large above 4", """
            drawn(1)
            told(0, 5) throws IllegalArgumentException
            told(0, max) throws IllegalArgumentException
            told(0, 4) = -100000
            """);
        ROWS.test("Promise 8: the PLOT is told ahead of the PART, as it is named first", """
            drawn(1)
            told(1, 5) throws IndexOutOfBoundsException
            """);
        ROWS.test("Promise 8: -100,000 where no JUDGE has a MARK of this PLOT in this PART", """
            drawn(2)
            mark(0, 0, 0, 7) = -1
            told(1, 0) = -100000
            told(0, 1) = -100000
            told(0, 0) = 700
            """);
        ROWS.test("Promise 8: -100,000 where the only MARK is none again", """
            drawn(1)
            mark(0, 0, 0, 7) = -1
            mark(0, 0, 0, -1) = 7
            told(0, 0) = -100000
            """);
        ROWS.test("Promise 8: the least and the greatest MARK alone are TOLD without HARD", """
            drawn(2)
            mark(2, 0, 0, 0) = -1
            mark(2, 1, 0, 20) = -1
            told(0, 0) = 0
            told(1, 0) = 2000
            """);
    }

    private static void toldFloored() {
        ROWS.test("Promise 8: HARD leads to the greatest TOLD and to the least, below 0", """
            drawn(3)
            mark(0, 0, 0, 0) = -1
            mark(1, 0, 0, 20) = -1
            mark(0, 1, 0, 20) = -1
            mark(1, 2, 0, 0) = -1
            told(0, 0) = 1000
            told(1, 0) = 4000
            told(2, 0) = -2000
            """);
        // HARD: 33 and -34; 33 + 100 - 34 by 2, and 33 - 34 by 2
        ROWS.test("Promise 8: floored, where the number is above 0 and below 0", """
            drawn(3)
            mark(0, 0, 0, 0) = -1
            mark(0, 1, 0, 0) = -1
            mark(0, 2, 0, 0) = -1
            mark(1, 0, 0, 1) = -1
            mark(1, 1, 0, 0) = -1
            mark(1, 2, 0, 0) = -1
            told(0, 0) = 49
            told(1, 0) = -1
            told(2, 0) = -1
            """);
        ROWS.test("Promise 8: by how many JUDGES have a MARK, all four", """
            drawn(1)
            mark(0, 0, 3, 0) = -1
            mark(1, 0, 3, 1) = -1
            mark(2, 0, 3, 1) = -1
            mark(3, 0, 3, 0) = -1
            told(0, 3) = 49
            """);
    }

    private static void aboutOutOfRange() {
        ROWS.test("Promise 9: no PLOT is there ahead of the draw", """
            about(0, 0) throws IndexOutOfBoundsException
            ploughman(0, 30, 0) = 0
            about(0, 6) throws IndexOutOfBoundsException
            """);
        ROWS.test("Promise 9: a PLOT is too small below 0, too large above the last", """
            drawn(2)
            about(-1, 6) throws IndexOutOfBoundsException
            about(min, 6) throws IndexOutOfBoundsException
            about(2, 6) throws IndexOutOfBoundsException
            about(max, 6) throws IndexOutOfBoundsException
            about(0, 6) = 0
            about(1, 6) = 1
            """);
        ROWS.test("Promise 9: another what, below 0", """
            drawn(1)
            about(0, -1) throws IllegalArgumentException
            about(0, min) throws IllegalArgumentException
            about(0, 0) = 0
            """);
        ROWS.test("Promise 9: another what, above 6", """
            drawn(1)
            about(0, 7) throws IllegalArgumentException
            about(0, max) throws IllegalArgumentException
            about(0, 6) = 0
            """);
        ROWS.test("Promise 9: the PLOT is told ahead of the what, as it is named first", """
            drawn(1)
            about(1, 7) throws IndexOutOfBoundsException
            about(-1, -1) throws IndexOutOfBoundsException
            """);
    }

    private static void sumAndUntold() {
        ROWS.test("Promise 9: SUM is 0 where none is TOLD", """
            drawn(1)
            about(0, 0) = 0
            """);
        ROWS.test("Promise 9: SUM takes 0 for a PART where none is TOLD", """
            drawn(1)
            mark(0, 0, 0, 1) = -1
            mark(0, 0, 4, 2) = -1
            about(0, 0) = 300
            """);
        ROWS.test("Promise 9: SUM is that of all five PARTS", """
            drawn(1)
            mark(0, 0, 0, 1) = -1
            mark(0, 0, 1, 2) = -1
            mark(0, 0, 2, 4) = -1
            mark(0, 0, 3, 8) = -1
            mark(0, 0, 4, 16) = -1
            about(0, 0) = 3100
            """);
        ROWS.test("Promise 9: SUM can be below 0", """
            drawn(2)
            mark(0, 0, 0, 0) = -1
            mark(1, 0, 0, 20) = -1
            mark(1, 1, 0, 0) = -1
            about(1, 0) = -2000
            """);
        ROWS.test("Promise 9: none is TOLD in 5 PARTS at first", """
            drawn(1)
            about(0, 1) = 5
            """);
        ROWS.test("Promise 9: a MARK of 0 is TOLD, and none behind 5 of them is not", """
            drawn(1)
            mark(0, 0, 0, 0) = -1
            about(0, 1) = 4
            mark(0, 0, 1, 0) = -1
            mark(0, 0, 2, 0) = -1
            mark(0, 0, 3, 0) = -1
            mark(0, 0, 4, 0) = -1
            about(0, 1) = 0
            mark(0, 0, 4, -1) = 0
            about(0, 1) = 1
            """);
    }

    private static void groundAtTheEnds() {
        ROWS.test("Promise 9: GROUND is 0, if there is one PLOT alone", """
            drawn(1)
            mark(0, 0, 0, 20) = -1
            about(0, 0) = 2000
            about(0, 2) = 0
            about(0, 5) = 2000
            """);
        ROWS.test("Promise 9: GROUND is 0 where no PLOT has MARKS", """
            drawn(3)
            about(0, 2) = 0
            about(1, 2) = 0
            about(2, 2) = 0
            """);
        ROWS.test("Promise 9: each of two PLOTS has the other one alone for a neighbour", """
            drawn(2)
            mark(0, 0, 0, 4) = -1
            mark(0, 1, 0, 12) = -1
            about(0, 2) = 100
            about(1, 2) = -100
            """);
        // SUMS: 400, 200, 1200, and 600 of all; a row that closes to a ring would tell 25, 50 and -75
        ROWS.test("Promise 9: the PLOTS at the ends have one neighbour, the others two", """
            drawn(3)
            mark(0, 0, 0, 4) = -1
            mark(0, 1, 0, 2) = -1
            mark(0, 2, 0, 12) = -1
            about(0, 2) = -100
            about(1, 2) = 50
            about(2, 2) = -100
            """);
        // the SUM of all is 2400, and 100 by 24
        ROWS.test("Promise 9: the last of 24 PLOTS is at an end", """
            drawn(24)
            mark(3, 22, 4, 6) = -1
            mark(3, 23, 4, 18) = -1
            about(23, 2) = 125
            about(22, 2) = 200
            about(21, 2) = 50
            about(0, 2) = -25
            """);
        // PLOUGHMEN 0, 1, 2 have PLOTS 1, 2, 0; SUMS: 0, 0, 1200, and 400 of all
        ROWS.test("Promise 9: neighbours are by the number of the PLOT, not of the PLOUGHMAN", """
            3 times ploughman(0, 30, 0)
            2 times noise(0)
            draw() = 3
            mark(0, 2, 0, 12) = -1
            about(0, 2) = -100
            about(1, 2) = 50
            about(2, 2) = -100
            """);
    }

    private static void groundFloored() {
        // 100 less 50, and 0 less 50, by 4
        ROWS.test("Promise 9: GROUND is floored by 4, above 0 and below 0", """
            drawn(2)
            mark(0, 1, 0, 1) = -1
            about(0, 2) = 12
            about(1, 2) = -13
            """);
        // SUMS: 0 and 150, and 75 of all: 75 by 4 is 18, and -75 by 4 is -19
        ROWS.test("Promise 9: GROUND where the SUMS of all PLOTS by how many they are leave nothing", """
            drawn(2)
            mark(0, 1, 0, 1) = -1
            mark(1, 1, 0, 2) = -1
            about(1, 0) = 150
            about(0, 2) = 18
            about(1, 2) = -19
            """);
        // SUMS: 250, -500, 0; -250 by 3 is -84, so that -416 by 4 is -104; with -83 it would be -105
        ROWS.test("Promise 9: GROUND floors the SUMS of all PLOTS where they are below 0", """
            drawn(3)
            mark(0, 0, 0, 0) = -1
            mark(1, 0, 0, 5) = -1
            mark(1, 1, 0, 0) = -1
            about(0, 0) = 250
            about(1, 0) = -500
            about(2, 0) = 0
            about(0, 2) = -104
            about(1, 2) = 52
            about(2, 2) = -104
            """);
        // SUMS: 149, -1, -1, 0; -1 by 2 is -1, and 147 by 4 is 36: -37 by 4; with 0 it would be -9
        ROWS.test("Promise 9: GROUND floors the SUMS of the neighbours where they are below 0", """
            drawn(4)
            mark(0, 0, 0, 0) = -1
            mark(0, 1, 0, 0) = -1
            mark(0, 2, 0, 0) = -1
            mark(1, 0, 0, 1) = -1
            mark(1, 1, 0, 0) = -1
            mark(1, 2, 0, 0) = -1
            mark(2, 0, 1, 1) = -1
            about(0, 0) = 149
            about(1, 0) = -1
            about(2, 0) = -1
            about(3, 0) = 0
            about(2, 2) = -10
            """);
    }

    private static void finalOfAPlot() {
        ROWS.test("Promise 9: FINAL is SUM less GROUND, which adds to it below 0", """
            drawn(2)
            mark(0, 1, 0, 1) = -1
            about(0, 5) = -12
            about(1, 5) = 113
            """);
        ROWS.test("Promise 9: FINAL is less what PROTESTS took off, and can be below 0", """
            drawn(1)
            mark(0, 0, 0, 1) = -1
            protest(0, 100) = 100
            about(0, 5) = 0
            protest(0, 1) = 101
            about(0, 5) = -1
            about(0, 4) = 101
            """);
        ROWS.test("Promise 9: SUM and GROUND are without MINUTES and PROTESTS", """
            drawn(2)
            mark(0, 1, 0, 1) = -1
            minutes(1, 600) = 0
            protest(1, 1000) = 1000
            about(1, 0) = 100
            about(0, 2) = 12
            about(1, 2) = -13
            """);
    }

    private static void minutes() {
        ROWS.test("Promise 10: no PLOT is there ahead of the draw", """
            minutes(0, 5) throws IndexOutOfBoundsException
            ploughman(0, 30, 0) = 0
            minutes(0, 5) throws IndexOutOfBoundsException
            """);
        ROWS.test("Promise 10: a PLOT is too small below 0, too large above the last", """
            drawn(2)
            minutes(-1, 5) throws IndexOutOfBoundsException
            minutes(min, 5) throws IndexOutOfBoundsException
            minutes(2, 5) throws IndexOutOfBoundsException
            minutes(max, 5) throws IndexOutOfBoundsException
            minutes(1, 5) = 0
            """);
        ROWS.test("Promise 10: MINUTES are too few below 0", """
            drawn(1)
            minutes(0, -1) throws IllegalArgumentException
            minutes(0, min) throws IllegalArgumentException
            minutes(0, 0) = 0
            """);
        ROWS.test("Promise 10: MINUTES are too many above 600", """
            drawn(1)
            minutes(0, 601) throws IllegalArgumentException
            minutes(0, max) throws IllegalArgumentException
            minutes(0, 600) = 0
            """);
        ROWS.test("Promise 10: what they were, 0 at first", """
            drawn(2)
            minutes(1, 600) = 0
            minutes(1, 0) = 600
            minutes(1, 7) = 0
            minutes(0, 7) = 0
            """);
        ROWS.test("Promise 10: the PLOT is told ahead of MINUTES, as it is named first", """
            drawn(1)
            minutes(1, 601) throws IndexOutOfBoundsException
            """);
        ROWS.test("Promise 10: refused MINUTES leave those that were", """
            drawn(2)
            minutes(0, 300) = 0
            minutes(0, 601) throws IllegalArgumentException
            minutes(0, -1) throws IllegalArgumentException
            minutes(2, 9) throws IndexOutOfBoundsException
            about(0, 3) = 300
            about(1, 3) = 0
            about(0, 5) = -1000
            """);
    }

    private static void limit() {
        ROWS.test("Promise 11: LIMIT is too small below 0", """
            limit(-1) throws IllegalArgumentException
            limit(min) throws IllegalArgumentException
            limit(0) = 200
            """);
        ROWS.test("Promise 11: LIMIT is too large above 600", """
            limit(601) throws IllegalArgumentException
            limit(max) throws IllegalArgumentException
            limit(600) = 200
            """);
        ROWS.test("Promise 11: what it was, 200 at first", """
            limit(600) = 200
            limit(0) = 600
            limit(1) = 0
            limit(1) = 1
            """);
        ROWS.test("Promise 11: a refused LIMIT leaves the one that was", """
            drawn(1)
            minutes(0, 300) = 0
            limit(300) = 200
            limit(-1) throws IllegalArgumentException
            limit(601) throws IllegalArgumentException
            about(0, 5) = 0
            limit(300) = 300
            """);
    }

    private static void minutesAboveLimit() {
        ROWS.test("Promise 11: MINUTES at LIMIT take nothing off", """
            drawn(1)
            minutes(0, 200) = 0
            about(0, 5) = 0
            """);
        ROWS.test("Promise 11: MINUTES below LIMIT add nothing", """
            drawn(1)
            minutes(0, 190) = 0
            about(0, 5) = 0
            minutes(0, 0) = 190
            about(0, 5) = 0
            """);
        ROWS.test("Promise 11: the first 5 MINUTES are begun with the first and end with the fifth", """
            drawn(1)
            minutes(0, 201) = 0
            about(0, 5) = -50
            minutes(0, 205) = 201
            about(0, 5) = -50
            """);
        ROWS.test("Promise 11: the second 5 MINUTES are begun with the sixth and end with the tenth", """
            drawn(1)
            minutes(0, 206) = 0
            about(0, 5) = -100
            minutes(0, 210) = 206
            about(0, 5) = -100
            minutes(0, 211) = 210
            about(0, 5) = -150
            """);
        ROWS.test("Promise 11: the least LIMIT with the most MINUTES", """
            drawn(1)
            limit(0) = 200
            minutes(0, 600) = 0
            about(0, 5) = -6000
            minutes(0, 1) = 600
            about(0, 5) = -50
            """);
        ROWS.test("Promise 11: the greatest LIMIT with the most MINUTES", """
            drawn(1)
            minutes(0, 600) = 0
            about(0, 5) = -4000
            limit(600) = 200
            about(0, 5) = 0
            limit(599) = 600
            about(0, 5) = -50
            """);
    }
}
