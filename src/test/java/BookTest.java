/** Promises 15 to 20: protest, publish, points, line, wait, count. */
public final class BookTest {
    private static final Checks CHECKS = new Checks();

    public static void main(String[] args) {
        protestAddsUp();
        protestRefusesWrongArguments();
        publishNeedsTheDraw();
        publishGivesSixPrizesInEachClass();
        publishWritesDifferencesAlone();
        publishStopsAtSixHundredLines();
        pointsTellWhatWasKnown();
        lineTellsItsThreeNumbers();
        waitMovesTheDay();
        countTellsEach();
        CHECKS.end();
    }

    private static void protestAddsUp() {
        PloughingMatch match = Checks.inRow(2);
        CHECKS.due("protest(1, 1)", match.protest(1, 1), 1);
        CHECKS.due("protest(1, 1000)", match.protest(1, 1000), 1001);
        CHECKS.due("about(1, 4)", match.about(1, 4), 1001);
        CHECKS.due("about(1, 5)", match.about(1, 5), -1001);
        CHECKS.due("another plot: about(0, 4)", match.about(0, 4), 0);
    }

    private static void protestRefusesWrongArguments() {
        PloughingMatch match = Checks.inRow(2);
        int[] wrong = {0, -1, 1001, Integer.MAX_VALUE, Integer.MIN_VALUE};
        for (int off : wrong) {
            CHECKS.throwsArgument("protest(0, " + off + ")", () -> match.protest(0, off));
        }
        CHECKS.throwsIndex("protest(2, 1)", () -> match.protest(2, 1));
        CHECKS.throwsIndex("protest(-1, 1)", () -> match.protest(-1, 1));
        CHECKS.throwsIndex("no such plot is told first", () -> match.protest(2, 0));
        CHECKS.throwsIndex("protest ahead of the draw", () -> new PloughingMatch().protest(0, 1));
        CHECKS.due("wrong ones take nothing off: about(0, 4)", match.about(0, 4), 0);
    }

    private static void publishNeedsTheDraw() {
        PloughingMatch match = new PloughingMatch();
        CHECKS.due("publish() of none", match.publish(), -1);
        match.ploughman(0, 30, 0);
        CHECKS.due("publish() ahead of the draw", match.publish(), -1);
        CHECKS.due("count(4)", match.count(4), 0);
        match.draw();
        CHECKS.due("publish()", match.publish(), 1);
    }

    private static void publishGivesSixPrizesInEachClass() {
        PloughingMatch match = new PloughingMatch();
        for (int k = 0; k < 7; k++) {
            match.ploughman(0, 30, 9 - k);
        }
        match.ploughman(1, 30, 9);
        match.ploughman(1, 30, 0);
        match.ploughman(2, 30, 3);
        Checks.drawInRow(match);
        // CLASS 0: clubs 9 to 4; club 3 is the seventh
        CHECKS.due("publish()", match.publish(), 8);
        int[] want = {6, 0, 0, 10, 1, 2, 3, 4, 6, 20};
        for (int club = 0; club < 10; club++) {
            CHECKS.due("points(" + club + ", 0)", match.points(club, 0), want[club]);
        }
        int[] clubs = {0, 3, 4, 5, 6, 7, 8, 9};
        for (int k = 0; k < 8; k++) {
            CHECKS.due("in order: line(" + k + ", 1)", match.line(k, 1), clubs[k]);
            CHECKS.due("line(" + k + ", 2)", match.line(k, 2), want[clubs[k]]);
        }
    }

    private static void publishWritesDifferencesAlone() {
        PloughingMatch match = Checks.inRow(3);
        CHECKS.due("publish()", match.publish(), 3);
        CHECKS.due("publish() again", match.publish(), 0);
        match.protest(0, 1);
        match.wait(3);
        CHECKS.due("clubs 0 and 1 and 2 move: publish()", match.publish(), 3);
        CHECKS.due("line(3, 0)", match.line(3, 0), 3);
        CHECKS.due("line(3, 2)", match.line(3, 2), -6);
        CHECKS.due("line(4, 2)", match.line(4, 2), 4);
        CHECKS.due("line(5, 2)", match.line(5, 2), 2);
        match.protest(2, 2);
        CHECKS.due("club 1 stays: publish()", match.publish(), 2);
        CHECKS.due("line(6, 1)", match.line(6, 1), 0);
        CHECKS.due("line(6, 2)", match.line(6, 2), 2);
        CHECKS.due("line(7, 1)", match.line(7, 1), 2);
        CHECKS.due("line(7, 2)", match.line(7, 2), -2);
        CHECKS.due("count(4)", match.count(4), 8);
    }

    /** The first turn of the order writes 6 lines; each further one moves all ten clubs. */
    private static void publishStopsAtSixHundredLines() {
        PloughingMatch match = Checks.inRow(10);
        int lines = 0;
        for (int turn = 0; lines + 10 <= 600 && turn < 90; turn++) {
            Checks.ruleOf(match, turn % 2 == 0 ? "age up" : "age down");
            lines += match.publish();
            CHECKS.due("count(4)", match.count(4), lines);
        }
        CHECKS.due("lines so far", lines, 596);
        int ofFive = match.points(5, 0);
        Checks.ruleOf(match, "age up");
        CHECKS.due("no room: publish()", match.publish(), -2);
        CHECKS.due("nothing changes: count(4)", match.count(4), 596);
        CHECKS.due("nothing changes: points(5, 0)", match.points(5, 0), ofFive);
        CHECKS.due("still no room: publish()", match.publish(), -2);
        Checks.ruleOf(match, "age down");
        CHECKS.due("nothing is due: publish()", match.publish(), 0);
        swapNeighbours(match);
        CHECKS.due("two have room: publish()", match.publish(), 2);
        match.minutes(7, 2);
        CHECKS.due("three more would be 601: publish()", match.publish(), -2);
        match.minutes(7, 0);
        match.minutes(8, 0);
        CHECKS.due("the last two: publish()", match.publish(), 2);
        CHECKS.due("count(4)", match.count(4), 600);
        CHECKS.due("line(599, 1)", match.line(599, 1), 9);
        CHECKS.due("full: points(9, 0)", match.points(9, 0), 10);
        CHECKS.due("full: points(8, 0)", match.points(8, 0), 6);
        CHECKS.throwsIndex("line(600, 1)", () -> match.line(600, 1));
        match.minutes(8, 1);
        CHECKS.due("full: publish()", match.publish(), -2);
        match.minutes(8, 0);
        CHECKS.due("full, nothing is due: publish()", match.publish(), 0);
    }

    /** Two PLOUGHMEN at the head change places, the others stay. */
    private static void swapNeighbours(PloughingMatch match) {
        Checks.ruleOf(match, "minutes down, age down");
        match.minutes(8, 1);
    }

    private static void pointsTellWhatWasKnown() {
        PloughingMatch match = Checks.inRow(2);
        match.wait(5);
        match.publish();
        match.protest(0, 1);
        match.publish();
        match.wait(2);
        match.protest(1, 2);
        match.publish();
        CHECKS.due("points(0, 4)", match.points(0, 4), 0);
        CHECKS.due("both lines of the day: points(0, 5)", match.points(0, 5), 6);
        CHECKS.due("points(0, 6)", match.points(0, 6), 6);
        CHECKS.due("points(0, 7)", match.points(0, 7), 10);
        CHECKS.due("points(1, 7)", match.points(1, 7), 6);
        CHECKS.due("points(0, max)", match.points(0, Integer.MAX_VALUE), 10);
        CHECKS.due("points(0, -1)", match.points(0, -1), 0);
        CHECKS.due("points(0, min)", match.points(0, Integer.MIN_VALUE), 0);
        CHECKS.due("points(9, 7)", match.points(9, 7), 0);
        CHECKS.throwsArgument("points(10, 7)", () -> match.points(10, 7));
        CHECKS.throwsArgument("points(-1, 7)", () -> match.points(-1, 7));
    }

    private static void lineTellsItsThreeNumbers() {
        PloughingMatch match = Checks.inRow(2);
        match.wait(1000);
        match.publish();
        CHECKS.due("line(1, 0)", match.line(1, 0), 1000);
        CHECKS.due("line(1, 1)", match.line(1, 1), 1);
        CHECKS.due("line(1, 2)", match.line(1, 2), 6);
        CHECKS.throwsIndex("line(2, 0)", () -> match.line(2, 0));
        CHECKS.throwsIndex("line(-1, 0)", () -> match.line(-1, 0));
        CHECKS.throwsIndex("line(max, 0)", () -> match.line(Integer.MAX_VALUE, 0));
        CHECKS.throwsArgument("line(0, 3)", () -> match.line(0, 3));
        CHECKS.throwsArgument("line(0, -1)", () -> match.line(0, -1));
        CHECKS.throwsIndex("no such line is told first", () -> match.line(2, 3));
    }

    private static void waitMovesTheDay() {
        PloughingMatch match = new PloughingMatch();
        CHECKS.due("wait(0)", match.wait(0), 0);
        CHECKS.due("wait(1000)", match.wait(1000), 1000);
        CHECKS.due("wait(1)", match.wait(1), 1001);
        CHECKS.throwsArgument("wait(1001)", () -> match.wait(1001));
        CHECKS.throwsArgument("wait(-1)", () -> match.wait(-1));
        CHECKS.due("count(5)", match.count(5), 1001);
    }

    private static void countTellsEach() {
        PloughingMatch match = Checks.inRow(5);
        match.mark(0, 0, 0, 1);
        match.mark(1, 0, 0, 1);
        Checks.ruleOf(match, "age up,sum up,final up");
        match.publish();
        match.wait(8);
        match.noise(1);
        match.feed(0, 0, 0, 0, 0);
        int[] want = {5, 5, 2, 3, 5, 8, 1, 20};
        for (int what = 0; what < want.length; what++) {
            CHECKS.due("count(" + what + ")", match.count(what), want[what]);
        }
        int[] others = {-1, 8, Integer.MAX_VALUE, Integer.MIN_VALUE};
        for (int what : others) {
            CHECKS.due("count(" + what + ")", match.count(what), PloughingMatch.NONE);
        }
    }
}
