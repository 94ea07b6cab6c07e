/** Promises 1 to 5: a new object, ploughman, noise, draw, plot. */
public final class DrawTest {
    private static final Checks CHECKS = new Checks();

    public static void main(String[] args) {
        newObjectIsEmpty();
        newObjectHasFirstRuleAndLimit();
        ploughmenAreNumbered();
        ploughmanRefusesWrongArguments();
        ploughmanRefusesWhenFull();
        ploughmanRefusesWhenDrawn();
        noiseHoldsThirty();
        drawNeedsPloughmenAndNoise();
        drawChangesPlaces();
        drawTakesNumbersWithoutSign();
        drawOfMostPloughmenReachesEveryPlot();
        plotIsToldWhenDrawn();
        CHECKS.end();
    }

    private static void newObjectIsEmpty() {
        PloughingMatch match = new PloughingMatch();
        int[] want = {0, 0, 0, 1, 0, 0, 0, 0};
        for (int what = 0; what < want.length; what++) {
            CHECKS.due("new: count(" + what + ")", match.count(what), want[what]);
        }
        for (int judge = 0; judge < 4; judge++) {
            for (int part = 0; part < 5; part++) {
                CHECKS.due("new: hard(" + judge + ", " + part + ")", match.hard(judge, part), 0);
            }
        }
        for (int club = 0; club < 10; club++) {
            CHECKS.due("new: points(" + club + ", 0)", match.points(club, 0), 0);
        }
        CHECKS.throwsIndex("new: line(0, 0)", () -> match.line(0, 0));
        CHECKS.throwsIndex("new: about(0, 0)", () -> match.about(0, 0));
    }

    private static void newObjectHasFirstRuleAndLimit() {
        PloughingMatch match = Checks.inRow(2);
        match.protest(0, 1);
        CHECKS.due("first rule is final down: rank(0, 0)", match.rank(0, 0), 1);
        CHECKS.due("first limit: limit(0)", match.limit(0), 200);
        CHECKS.due("objects share nothing: count(0)", new PloughingMatch().count(0), 0);
    }

    private static void ploughmenAreNumbered() {
        PloughingMatch match = new PloughingMatch();
        CHECKS.due("ploughman(0, 10, 0)", match.ploughman(0, 10, 0), 0);
        CHECKS.due("ploughman(2, 99, 9)", match.ploughman(2, 99, 9), 1);
        CHECKS.due("ploughman(1, 50, 5)", match.ploughman(1, 50, 5), 2);
        CHECKS.due("count(0)", match.count(0), 3);
    }

    private static void ploughmanRefusesWrongArguments() {
        PloughingMatch match = new PloughingMatch();
        int[][] wrong = {{-1, 30, 3}, {3, 30, 3}, {0, 9, 3}, {0, 100, 3}, {0, 30, -1}, {0, 30, 10},
            {Integer.MIN_VALUE, 30, 3}, {0, Integer.MAX_VALUE, 3}, {0, 30, Integer.MIN_VALUE}};
        for (int[] w : wrong) {
            CHECKS.throwsArgument("ploughman(" + w[0] + ", " + w[1] + ", " + w[2] + ")",
                () -> match.ploughman(w[0], w[1], w[2]));
        }
        CHECKS.due("wrong ones leave none: count(0)", match.count(0), 0);
    }

    private static void ploughmanRefusesWhenFull() {
        PloughingMatch match = new PloughingMatch();
        for (int k = 0; k < 24; k++) {
            CHECKS.due("ploughman " + k, match.ploughman(k % 3, 30, k % 10), k);
        }
        CHECKS.throwsState("25th ploughman", () -> match.ploughman(0, 30, 0));
        CHECKS.throwsArgument("25th ploughman with a wrong class", () -> match.ploughman(3, 30, 0));
        CHECKS.due("full: count(0)", match.count(0), 24);
    }

    private static void ploughmanRefusesWhenDrawn() {
        PloughingMatch match = Checks.inRow(1);
        CHECKS.throwsState("ploughman behind the draw", () -> match.ploughman(0, 30, 0));
        CHECKS.due("drawn: count(0)", match.count(0), 1);
    }

    private static void noiseHoldsThirty() {
        PloughingMatch match = new PloughingMatch();
        for (int k = 1; k <= 30; k++) {
            CHECKS.due("noise " + k, match.noise(-k), k);
        }
        CHECKS.due("31st noise", match.noise(7), PloughingMatch.NONE);
        CHECKS.due("full: count(6)", match.count(6), 30);
        match.ploughman(0, 30, 0);
        match.draw();
        CHECKS.due("noise behind the draw", match.noise(7), 1);
    }

    private static void drawNeedsPloughmenAndNoise() {
        PloughingMatch match = new PloughingMatch();
        CHECKS.due("draw() of none", match.draw(), -2);
        match.noise(1);
        CHECKS.due("draw() of none with noise", match.draw(), -2);
        CHECKS.due("noise stays: count(6)", match.count(6), 1);
        match.ploughman(0, 30, 0);
        match.ploughman(1, 30, 0);
        match.ploughman(2, 30, 0);
        CHECKS.due("draw() with too little noise", match.draw(), -1);
        CHECKS.due("noise stays: count(6)", match.count(6), 1);
        CHECKS.due("not drawn: count(1)", match.count(1), 0);
        match.noise(1);
        match.noise(9);
        CHECKS.due("draw()", match.draw(), 3);
        CHECKS.due("all noise is gone: count(6)", match.count(6), 0);
        CHECKS.due("drawn: count(1)", match.count(1), 3);
        CHECKS.throwsState("draw() again", match::draw);
        PloughingMatch alone = new PloughingMatch();
        alone.ploughman(0, 30, 0);
        CHECKS.due("draw() of one without noise", alone.draw(), 1);
    }

    private static void drawChangesPlaces() {
        PloughingMatch match = new PloughingMatch();
        for (int k = 0; k < 4; k++) {
            match.ploughman(0, 30, 0);
        }
        // 0 1 2 3; 5 by 4 leaves 1: 0 3 2 1; 6 by 3 leaves 0: 2 3 0 1; 8 by 2 leaves 0: 3 2 0 1
        match.noise(5);
        match.noise(6);
        match.noise(8);
        match.noise(1);
        match.draw();
        int[] want = {3, 2, 0, 1};
        for (int k = 0; k < 4; k++) {
            CHECKS.due("plot(" + k + ")", match.plot(k), want[k]);
            CHECKS.due("about(" + want[k] + ", 6)", match.about(want[k], 6), k);
        }
    }

    private static void drawTakesNumbersWithoutSign() {
        PloughingMatch match = new PloughingMatch();
        for (int k = 0; k < 3; k++) {
            match.ploughman(0, 30, 0);
        }
        // 4,294,967,294 by 3 leaves 2, 2,147,483,648 by 2 leaves 0
        match.noise(-2);
        match.noise(Integer.MIN_VALUE);
        match.draw();
        CHECKS.due("without sign: plot(0)", match.plot(0), 1);
        CHECKS.due("without sign: plot(1)", match.plot(1), 0);
        CHECKS.due("without sign: plot(2)", match.plot(2), 2);
    }

    private static void drawOfMostPloughmenReachesEveryPlot() {
        PloughingMatch match = new PloughingMatch();
        for (int k = 0; k < 24; k++) {
            match.ploughman(0, 30, 0);
        }
        for (int k = 0; k < 23; k++) {
            match.noise(k * 0x9E3779B1);
        }
        CHECKS.due("draw() of 24", match.draw(), 24);
        long seen = 0;
        for (int k = 0; k < 24; k++) {
            seen |= 1L << match.plot(k);
            CHECKS.due("about(plot(k), 6)", match.about(match.plot(k), 6), k);
        }
        CHECKS.due("each plot once", seen, (1L << 24) - 1);
    }

    private static void plotIsToldWhenDrawn() {
        PloughingMatch match = new PloughingMatch();
        CHECKS.throwsIndex("plot(0) of none", () -> match.plot(0));
        match.ploughman(0, 30, 0);
        CHECKS.due("plot(0) ahead of the draw", match.plot(0), PloughingMatch.NONE);
        CHECKS.throwsIndex("plot(1)", () -> match.plot(1));
        CHECKS.throwsIndex("plot(-1)", () -> match.plot(-1));
        match.draw();
        CHECKS.due("plot(0)", match.plot(0), 0);
        CHECKS.throwsIndex("drawn: plot(1)", () -> match.plot(1));
        CHECKS.throwsIndex("drawn: plot(min)", () -> match.plot(Integer.MIN_VALUE));
    }
}
