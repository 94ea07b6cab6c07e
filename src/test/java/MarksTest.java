/** Promises 6 to 11: mark, hard, told, about, minutes, limit. */
public final class MarksTest {
    private static final Checks CHECKS = new Checks();
    private static final int NOT_TOLD = -100000;

    public static void main(String[] args) {
        markTellsWhatItWas();
        markRefusesWrongArguments();
        hardComparesSharedPlots();
        hardIsFlooredAndApartByPart();
        hardRefusesWrongArguments();
        toldAveragesOnOneScale();
        toldRefusesWrongArguments();
        aboutTellsSumAndUntold();
        groundComesFromNeighbours();
        groundFloorsEachStep();
        groundOfTwoAndOfOne();
        lastOfMostPlotsHasOneNeighbour();
        finalTakesMinutesOff();
        aboutRefusesWrongArguments();
        minutesTellWhatTheyWere();
        limitTellsWhatItWas();
        CHECKS.end();
    }

    private static void markTellsWhatItWas() {
        PloughingMatch match = Checks.inRow(2);
        CHECKS.due("mark(3, 1, 4, 20)", match.mark(3, 1, 4, 20), -1);
        CHECKS.due("mark(3, 1, 4, 0)", match.mark(3, 1, 4, 0), 20);
        CHECKS.due("count(2)", match.count(2), 1);
        CHECKS.due("mark(3, 1, 4, -1)", match.mark(3, 1, 4, -1), 0);
        CHECKS.due("count(2)", match.count(2), 0);
        CHECKS.due("mark(3, 1, 4, -1) again", match.mark(3, 1, 4, -1), -1);
        CHECKS.due("count(2)", match.count(2), 0);
        CHECKS.due("told(1, 4)", match.told(1, 4), NOT_TOLD);
    }

    private static void markRefusesWrongArguments() {
        PloughingMatch early = new PloughingMatch();
        early.ploughman(0, 30, 0);
        CHECKS.throwsIndex("mark ahead of the draw", () -> early.mark(0, 0, 0, 5));
        PloughingMatch match = Checks.inRow(2);
        int[] wrongPlots = {-1, 2, 24, Integer.MAX_VALUE, Integer.MIN_VALUE};
        for (int plot : wrongPlots) {
            CHECKS.throwsIndex("mark(0, " + plot + ", 0, 5)", () -> match.mark(0, plot, 0, 5));
        }
        int[][] wrong = {{-1, 0, 5}, {4, 0, 5}, {0, -1, 5}, {0, 5, 5}, {0, 0, -2}, {0, 0, 21},
            {Integer.MAX_VALUE, 0, 5}, {0, Integer.MIN_VALUE, 5}, {0, 0, Integer.MAX_VALUE}};
        for (int[] w : wrong) {
            CHECKS.throwsArgument("mark(" + w[0] + ", 0, " + w[1] + ", " + w[2] + ")",
                () -> match.mark(w[0], 0, w[1], w[2]));
        }
        CHECKS.throwsIndex("no such plot is told first", () -> match.mark(9, 9, 9, 99));
        CHECKS.due("wrong ones leave none: count(2)", match.count(2), 0);
    }

    private static void hardComparesSharedPlots() {
        PloughingMatch match = Checks.inRow(3);
        match.mark(0, 0, 2, 10);
        match.mark(0, 2, 2, 3);
        CHECKS.due("alone: hard(0, 2)", match.hard(0, 2), 0);
        match.mark(1, 0, 2, 14);
        match.mark(2, 0, 2, 9);
        match.mark(2, 1, 2, 20);
        CHECKS.due("hard(0, 2)", match.hard(0, 2), 150);
        CHECKS.due("hard(1, 2)", match.hard(1, 2), -450);
        CHECKS.due("hard(2, 2)", match.hard(2, 2), 300);
        CHECKS.due("no marks: hard(3, 2)", match.hard(3, 2), 0);
        match.mark(1, 0, 2, -1);
        CHECKS.due("a mark gone: hard(0, 2)", match.hard(0, 2), -100);
        CHECKS.due("a mark gone: hard(1, 2)", match.hard(1, 2), 0);
    }

    private static void hardIsFlooredAndApartByPart() {
        PloughingMatch match = Checks.inRow(3);
        for (int plot = 0; plot < 3; plot++) {
            match.mark(0, plot, 1, 5);
            match.mark(1, plot, 1, plot == 0 ? 6 : 5);
        }
        CHECKS.due("100 by 3: hard(0, 1)", match.hard(0, 1), 33);
        CHECKS.due("-100 by 3: hard(1, 1)", match.hard(1, 1), -34);
        CHECKS.due("another part: hard(0, 0)", match.hard(0, 0), 0);
        match.mark(0, 0, 3, 0);
        match.mark(3, 0, 3, 20);
        CHECKS.due("hard(0, 3)", match.hard(0, 3), 2000);
        CHECKS.due("hard(3, 3)", match.hard(3, 3), -2000);
    }

    private static void hardRefusesWrongArguments() {
        PloughingMatch match = new PloughingMatch();
        int[][] wrong = {{-1, 0}, {4, 0}, {0, -1}, {0, 5}, {Integer.MIN_VALUE, 0}, {0, Integer.MAX_VALUE}};
        for (int[] w : wrong) {
            CHECKS.throwsArgument("hard(" + w[0] + ", " + w[1] + ")", () -> match.hard(w[0], w[1]));
        }
    }

    private static void toldAveragesOnOneScale() {
        PloughingMatch match = Checks.inRow(3);
        match.mark(0, 0, 0, 10);
        match.mark(1, 0, 0, 13);
        match.mark(0, 1, 0, 7);
        CHECKS.due("told(0, 0)", match.told(0, 0), 1150);
        CHECKS.due("told(1, 0)", match.told(1, 0), 1000);
        CHECKS.due("told(2, 0)", match.told(2, 0), NOT_TOLD);
        CHECKS.due("told(0, 1)", match.told(0, 1), NOT_TOLD);
        match.mark(1, 2, 0, 0);
        CHECKS.due("below zero: told(2, 0)", match.told(2, 0), -300);
        match.mark(2, 2, 0, 1);
        // HARD: 300, (-3 + 1) * 100 / 2 = -100, -100; (0 - 100 + 100 - 100) / 2 = -50
        CHECKS.due("told(2, 0)", match.told(2, 0), -50);
        match.mark(2, 2, 0, 0);
        // HARD: 300, -150, 0; (0 - 150 + 0) / 2 = -75
        CHECKS.due("told(2, 0)", match.told(2, 0), -75);
        PloughingMatch odd = Checks.inRow(3);
        for (int plot = 0; plot < 3; plot++) {
            odd.mark(0, plot, 0, 0);
            odd.mark(1, plot, 0, plot == 0 ? 1 : 0);
        }
        // HARD: 33 and -34; (33 - 34) / 2 floored is -1
        CHECKS.due("floored below zero: told(1, 0)", odd.told(1, 0), -1);
    }

    private static void toldRefusesWrongArguments() {
        PloughingMatch match = Checks.inRow(2);
        CHECKS.throwsIndex("told(2, 0)", () -> match.told(2, 0));
        CHECKS.throwsIndex("told(-1, 0)", () -> match.told(-1, 0));
        CHECKS.throwsArgument("told(0, 5)", () -> match.told(0, 5));
        CHECKS.throwsArgument("told(0, -1)", () -> match.told(0, -1));
        CHECKS.throwsIndex("no such plot is told first", () -> match.told(2, 5));
        CHECKS.throwsIndex("told ahead of the draw", () -> new PloughingMatch().told(0, 0));
    }

    private static void aboutTellsSumAndUntold() {
        PloughingMatch match = Checks.inRow(2);
        CHECKS.due("about(0, 0)", match.about(0, 0), 0);
        CHECKS.due("about(0, 1)", match.about(0, 1), 5);
        match.mark(0, 0, 0, 3);
        match.mark(0, 0, 4, 20);
        CHECKS.due("about(0, 0)", match.about(0, 0), 2300);
        CHECKS.due("about(0, 1)", match.about(0, 1), 3);
        match.mark(0, 0, 1, 0);
        CHECKS.due("a mark of 0 is told: about(0, 1)", match.about(0, 1), 2);
        CHECKS.due("about(1, 0)", match.about(1, 0), 0);
    }

    private static void groundComesFromNeighbours() {
        PloughingMatch match = Checks.inRow(4);
        int[] marks = {4, 10, 0, 18};
        for (int plot = 0; plot < 4; plot++) {
            match.mark(2, plot, 3, marks[plot]);
        }
        // all: 3200 by 4 is 800
        CHECKS.due("about(0, 2)", match.about(0, 2), 50);
        CHECKS.due("about(1, 2)", match.about(1, 2), -150);
        CHECKS.due("about(2, 2)", match.about(2, 2), 150);
        CHECKS.due("about(3, 2)", match.about(3, 2), -200);
        CHECKS.due("about(3, 5)", match.about(3, 5), 2000);
        CHECKS.due("about(2, 5)", match.about(2, 5), -150);
    }

    private static void groundFloorsEachStep() {
        PloughingMatch match = Checks.inRow(3);
        for (int plot = 0; plot < 3; plot++) {
            match.mark(0, plot, 0, 0);
            match.mark(1, plot, 0, plot == 0 ? 1 : 0);
        }
        // SUMS: (33 + 66) / 2 = 49, -1, -1; all 47 by 3 is 15; the middle's neighbours 48 by 2 are 24
        CHECKS.due("about(0, 0)", match.about(0, 0), 49);
        CHECKS.due("about(1, 0)", match.about(1, 0), -1);
        CHECKS.due("about(0, 2)", match.about(0, 2), -4);
        CHECKS.due("about(1, 2)", match.about(1, 2), 2);
        CHECKS.due("about(2, 2)", match.about(2, 2), -4);
        match.mark(2, 2, 1, 20);
        // SUMS: 49, -1, 1999; all 2047 by 3 is 682; neighbours of the middle 2048 by 2 are 1024
        CHECKS.due("about(0, 2)", match.about(0, 2), -171);
        CHECKS.due("about(1, 2)", match.about(1, 2), 85);
        CHECKS.due("about(2, 2)", match.about(2, 2), -171);
    }

    private static void groundOfTwoAndOfOne() {
        PloughingMatch two = Checks.inRow(2);
        two.mark(0, 1, 0, 1);
        CHECKS.due("two: about(0, 2)", two.about(0, 2), 12);
        CHECKS.due("two: about(1, 2)", two.about(1, 2), -13);
        PloughingMatch one = Checks.inRow(1);
        one.mark(0, 0, 0, 20);
        CHECKS.due("one: about(0, 2)", one.about(0, 2), 0);
        CHECKS.due("one: about(0, 5)", one.about(0, 5), 2000);
    }

    private static void lastOfMostPlotsHasOneNeighbour() {
        PloughingMatch match = Checks.inRow(24);
        match.mark(3, 23, 4, 18);
        match.mark(3, 22, 4, 6);
        // all: 2400 by 24 is 100
        CHECKS.due("24 plots: about(23, 2)", match.about(23, 2), 125);
        CHECKS.due("24 plots: about(22, 2)", match.about(22, 2), 200);
        CHECKS.due("24 plots: about(0, 2)", match.about(0, 2), -25);
        CHECKS.due("24 plots: about(23, 5)", match.about(23, 5), 1675);
        CHECKS.throwsIndex("24 plots: mark(3, 24, 4, 1)", () -> match.mark(3, 24, 4, 1));
    }

    private static void finalTakesMinutesOff() {
        PloughingMatch match = Checks.inRow(1);
        int[][] offs = {{0, 0}, {199, 0}, {200, 0}, {201, 50}, {205, 50}, {206, 100}, {210, 100}, {600, 4000}};
        for (int[] off : offs) {
            match.minutes(0, off[0]);
            CHECKS.due("about(0, 5) with minutes " + off[0], match.about(0, 5), -off[1]);
            CHECKS.due("about(0, 3)", match.about(0, 3), off[0]);
        }
        match.limit(0);
        CHECKS.due("limit 0: about(0, 5)", match.about(0, 5), -6000);
        match.protest(0, 7);
        CHECKS.due("about(0, 4)", match.about(0, 4), 7);
        CHECKS.due("about(0, 5)", match.about(0, 5), -6007);
        match.limit(600);
        CHECKS.due("limit 600: about(0, 5)", match.about(0, 5), -7);
    }

    private static void aboutRefusesWrongArguments() {
        PloughingMatch match = Checks.inRow(2);
        CHECKS.throwsIndex("about(2, 0)", () -> match.about(2, 0));
        CHECKS.throwsIndex("about(-1, 0)", () -> match.about(-1, 0));
        CHECKS.throwsArgument("about(0, 7)", () -> match.about(0, 7));
        CHECKS.throwsArgument("about(0, -1)", () -> match.about(0, -1));
        CHECKS.throwsIndex("no such plot is told first", () -> match.about(2, 7));
        PloughingMatch early = new PloughingMatch();
        early.ploughman(0, 30, 0);
        CHECKS.throwsIndex("about ahead of the draw", () -> early.about(0, 6));
    }

    private static void minutesTellWhatTheyWere() {
        PloughingMatch match = Checks.inRow(2);
        CHECKS.due("minutes(1, 600)", match.minutes(1, 600), 0);
        CHECKS.due("minutes(1, 0)", match.minutes(1, 0), 600);
        CHECKS.due("minutes(1, 3)", match.minutes(1, 3), 0);
        CHECKS.throwsArgument("minutes(1, 601)", () -> match.minutes(1, 601));
        CHECKS.throwsArgument("minutes(1, -1)", () -> match.minutes(1, -1));
        CHECKS.throwsIndex("minutes(2, 0)", () -> match.minutes(2, 0));
        CHECKS.throwsIndex("minutes(-1, 0)", () -> match.minutes(-1, 0));
        CHECKS.throwsIndex("no such plot is told first", () -> match.minutes(2, 601));
        CHECKS.due("wrong ones change nothing: about(1, 3)", match.about(1, 3), 3);
        CHECKS.due("another plot: about(0, 3)", match.about(0, 3), 0);
        CHECKS.throwsIndex("minutes ahead of the draw", () -> new PloughingMatch().minutes(0, 5));
    }

    private static void limitTellsWhatItWas() {
        PloughingMatch match = new PloughingMatch();
        CHECKS.due("limit(600)", match.limit(600), 200);
        CHECKS.due("limit(0)", match.limit(0), 600);
        CHECKS.throwsArgument("limit(601)", () -> match.limit(601));
        CHECKS.throwsArgument("limit(-1)", () -> match.limit(-1));
        CHECKS.due("limit(5)", match.limit(5), 0);
    }
}
