/** Promises 12 to 14: feed, rule, rank. */
public final class RuleTest {
    private static final Checks CHECKS = new Checks();

    public static void main(String[] args) {
        feedHoldsHundredBytes();
        feedTakesHighestByteFirst();
        ruleCountsKeys();
        ruleTellsThePlace();
        ruleEmptiesTheTape();
        ruleRefusesWrongLength();
        ruleThatIsNoneLeavesTheOld();
        rankAheadOfTheDraw();
        rankByClassAndNumber();
        rankByEachKey();
        rankByPartPutsUntoldBelowAll();
        rankByNextKey();
        rankRefusesWrongClass();
        CHECKS.end();
    }

    private static void feedHoldsHundredBytes() {
        PloughingMatch match = new PloughingMatch();
        for (int k = 1; k <= 5; k++) {
            CHECKS.due("feed " + k, match.feed(0, 0, 0, 0, 0), 20 * k);
        }
        CHECKS.due("6th feed", match.feed(0, 0, 0, 0, 0), PloughingMatch.NONE);
        CHECKS.due("count(7)", match.count(7), 100);
    }

    private static void feedTakesHighestByteFirst() {
        PloughingMatch match = new PloughingMatch();
        match.feed(0x61676520, 0x75702c73, 0x756d2064, 0x6f776e20, 0x20202020);
        CHECKS.due("age up,sum down: rule(20)", match.rule(20), 2);
        match.feed(0xE1676520, 0x75702020, 0, 0, 0);
        CHECKS.due("a byte above 127: rule(8)", match.rule(8), -2);
        match.feed(0x616765A0, 0x75702020, 0, 0, 0);
        CHECKS.due("a blank is 32 alone: rule(8)", match.rule(8), -5);
    }

    private static void ruleCountsKeys() {
        PloughingMatch match = new PloughingMatch();
        Object[][] rules = {
            {"final up", 1}, {"sum down", 1}, {"minutes up", 1}, {"age down", 1},
            {"part 0 up", 1}, {"part 4 down", 1}, {"part0up", 1}, {"part3down,part 2up", 2},
            {"  final   up  ", 1}, {"age up,age up", 2}, {" age  up ,  sum down ", 2},
            {"part   1   up   ,   part 1 down", 2},
            {"sum up,sum up,sum up,sum up,sum up,sum up", 6},
            {"sum up,sum up,sum up,sum up,sum up,sum up   ", 6},
        };
        for (Object[] rule : rules) {
            CHECKS.due("rule \"" + rule[0] + "\"", Checks.ruleOf(match, (String) rule[0]), (Integer) rule[1]);
            CHECKS.due("count(3) behind \"" + rule[0] + "\"", match.count(3), (Integer) rule[1]);
        }
    }

    private static void ruleTellsThePlace() {
        PloughingMatch match = new PloughingMatch();
        Object[][] texts = {
            {"", 0}, {"   ", 3}, {"final", 5}, {"final ", 6}, {"fina", 0}, {"finals up", 0}, {"finalup", 0},
            {"up", 0}, {"final final", 6}, {"final upp", 6}, {"final u", 6}, {"final dow", 6}, {"final downs", 6},
            {",", 0}, {"final,", 5}, {"final up,", 9}, {"final up, ", 10}, {"final up,,", 9}, {"final up x", 9},
            {"final up up", 9}, {"final up.", 8}, {"final up , up", 11}, {"Final up", 0}, {"final Up", 6},
            {"fiNal up", 0}, {"final uP", 6}, {"part", 4}, {"part ", 5}, {"part up", 5}, {"partup", 0}, {"part 5 up", 5},
            {"part 9up", 5}, {"part 10 up", 6}, {"part 1 0 up", 7}, {"part 55 up", 5}, {"part 1", 6}, {"part1", 5},
            {"part1 ", 6}, {"part-1 up", 4}, {"part :", 5}, {"part /", 5}, {"final 1 up", 6}, {"sum1up", 3}, {"1 up", 0},
            {"finalz up", 0}, {"agea up", 0}, {"rum up", 0}, {"sun up", 0}, {"final ap", 6}, {"bge up", 0}, {"age\tup", 3}, {"age up\0", 6}, {"{ge up", 0}, {"`ge up", 0},
            {"sum up,sum up,sum up,sum up,sum up,sum up,", 41},
            {"sum up,sum up,sum up,sum up,sum up,sum up ,sum up", 42},
            {"sum up,sum up,sum up,sum up,sum up,sum up sum", 42},
            {"sum up,sum up,sum up,sum up,sum up,sum", 38},
        };
        for (Object[] text : texts) {
            CHECKS.due("rule \"" + text[0] + "\"", Checks.ruleOf(match, (String) text[0]), -2 - (Integer) text[1]);
            CHECKS.due("the rule stays: count(3)", match.count(3), 1);
        }
    }

    private static void ruleEmptiesTheTape() {
        PloughingMatch match = new PloughingMatch();
        Checks.feedText(match, "age up,sum up,part 1 up");
        CHECKS.due("count(7)", match.count(7), 40);
        CHECKS.due("the first bytes alone: rule(6)", match.rule(6), 1);
        CHECKS.due("count(7)", match.count(7), 0);
        Checks.feedText(match, "final down");
        CHECKS.due("cut short: rule(9)", match.rule(9), -8);
        CHECKS.due("also behind none: count(7)", match.count(7), 0);
        Checks.feedText(match, "part 3 up");
        CHECKS.due("cut ahead of the digit: rule(5)", match.rule(5), -7);
        Checks.feedText(match, "final down");
        CHECKS.due("rule(0) of a full tape", match.rule(0), -2);
        CHECKS.due("count(7)", match.count(7), 0);
    }

    private static void ruleRefusesWrongLength() {
        PloughingMatch match = new PloughingMatch();
        CHECKS.throwsArgument("rule(1) of an empty tape", () -> match.rule(1));
        CHECKS.due("rule(0) of an empty tape", match.rule(0), -2);
        Checks.feedText(match, "final down          ");
        CHECKS.throwsArgument("rule(21)", () -> match.rule(21));
        CHECKS.throwsArgument("rule(-1)", () -> match.rule(-1));
        CHECKS.throwsArgument("rule(min)", () -> match.rule(Integer.MIN_VALUE));
        CHECKS.due("the tape stays: count(7)", match.count(7), 20);
        CHECKS.due("rule(20)", match.rule(20), 1);
    }

    private static void ruleThatIsNoneLeavesTheOld() {
        PloughingMatch match = threeAges();
        Checks.ruleOf(match, "age down, sum up");
        ranksAre(match, "age down", 1, 2, 0);
        Checks.ruleOf(match, "age up, sum up, final");
        ranksAre(match, "none behind it", 1, 2, 0);
        CHECKS.due("count(3)", match.count(3), 2);
    }

    private static void rankAheadOfTheDraw() {
        PloughingMatch match = new PloughingMatch();
        match.ploughman(0, 30, 0);
        CHECKS.due("rank(0, 0) ahead of the draw", match.rank(0, 0), PloughingMatch.NONE);
        CHECKS.throwsArgument("rank(3, 0) ahead of the draw", () -> match.rank(3, 0));
        match.draw();
        CHECKS.due("rank(0, 0)", match.rank(0, 0), 0);
    }

    private static void rankByClassAndNumber() {
        PloughingMatch match = new PloughingMatch();
        int[] kinds = {0, 1, 0, 0, 1};
        for (int kind : kinds) {
            match.ploughman(kind, 30, 0);
        }
        match.noise(0);
        match.noise(0);
        match.noise(0);
        match.noise(0);
        match.draw();
        ranksAre(match, "alike ones", 0, 2, 3);
        CHECKS.due("rank(1, 0)", match.rank(1, 0), 1);
        CHECKS.due("rank(1, 1)", match.rank(1, 1), 4);
        CHECKS.due("rank(1, 2)", match.rank(1, 2), PloughingMatch.NONE);
        CHECKS.due("rank(2, 0)", match.rank(2, 0), PloughingMatch.NONE);
        CHECKS.due("rank(0, -1)", match.rank(0, -1), PloughingMatch.NONE);
        CHECKS.due("rank(0, max)", match.rank(0, Integer.MAX_VALUE), PloughingMatch.NONE);
        CHECKS.due("rank(0, min)", match.rank(0, Integer.MIN_VALUE), PloughingMatch.NONE);
    }

    /** PLOUGHMEN 0, 1, 2 have PLOTS 2, 0, 1. */
    private static PloughingMatch threeAges() {
        PloughingMatch match = new PloughingMatch();
        match.ploughman(0, 20, 0);
        match.ploughman(0, 60, 1);
        match.ploughman(0, 40, 2);
        match.noise(1);
        match.noise(0);
        match.draw();
        CHECKS.due("threeAges: plot(0)", match.plot(0), 2);
        CHECKS.due("threeAges: plot(1)", match.plot(1), 0);
        CHECKS.due("threeAges: plot(2)", match.plot(2), 1);
        return match;
    }

    private static void rankByEachKey() {
        PloughingMatch match = threeAges();
        match.mark(0, 2, 1, 5);
        match.mark(0, 0, 1, 9);
        match.mark(0, 1, 1, 7);
        match.minutes(2, 30);
        match.minutes(0, 20);
        match.minutes(1, 250);
        match.protest(0, 900);
        // FINALS: 500, 900 - 900 and 700 - 500, by PLOUGHMAN
        CHECKS.due("about(2, 5)", match.about(2, 5), 500);
        CHECKS.due("about(0, 5)", match.about(0, 5), 0);
        CHECKS.due("about(1, 5)", match.about(1, 5), 200);
        ranksAre(match, "final down at first", 0, 2, 1);
        Checks.ruleOf(match, "final up");
        ranksAre(match, "final up", 1, 2, 0);
        Checks.ruleOf(match, "final down");
        ranksAre(match, "final down", 0, 2, 1);
        Checks.ruleOf(match, "sum up");
        ranksAre(match, "sum up", 0, 2, 1);
        Checks.ruleOf(match, "sum down");
        ranksAre(match, "sum down", 1, 2, 0);
        Checks.ruleOf(match, "minutes up");
        ranksAre(match, "minutes up", 1, 0, 2);
        Checks.ruleOf(match, "minutes down");
        ranksAre(match, "minutes down", 2, 0, 1);
        Checks.ruleOf(match, "age up");
        ranksAre(match, "age up", 0, 2, 1);
        Checks.ruleOf(match, "age down");
        ranksAre(match, "age down", 1, 2, 0);
    }

    private static void rankByPartPutsUntoldBelowAll() {
        for (int part = 0; part < 5; part++) {
            PloughingMatch match = threeAges();
            match.mark(0, 0, part, 0);
            match.mark(1, 0, part, 20);
            match.mark(1, 2, part, 0);
            // TOLD by PLOUGHMAN: -2000, 1000, none
            Checks.ruleOf(match, "part " + part + " up");
            ranksAre(match, "part " + part + " up", 2, 0, 1);
            Checks.ruleOf(match, "part" + part + "down");
            ranksAre(match, "part" + part + "down", 1, 0, 2);
            Checks.ruleOf(match, "part " + (part + 1) % 5 + " down");
            ranksAre(match, "another part", 0, 1, 2);
        }
    }

    private static void rankByNextKey() {
        PloughingMatch match = threeAges();
        match.minutes(0, 5);
        match.minutes(1, 5);
        Checks.ruleOf(match, "minutes down, age up");
        ranksAre(match, "minutes down, age up", 2, 1, 0);
        Checks.ruleOf(match, "part 3 up, sum down, minutes down, age down");
        ranksAre(match, "the fourth key", 1, 2, 0);
        Checks.ruleOf(match, "part 0 up,part 1 up,part 2 up,part 3 up,part 4 up,age down");
        ranksAre(match, "the sixth key", 1, 2, 0);
        Checks.ruleOf(match, "age up, age down");
        ranksAre(match, "the first key wins", 0, 2, 1);
    }

    private static void rankRefusesWrongClass() {
        PloughingMatch match = threeAges();
        int[] wrong = {-1, 3, Integer.MAX_VALUE, Integer.MIN_VALUE};
        for (int kind : wrong) {
            CHECKS.throwsArgument("rank(" + kind + ", 0)", () -> match.rank(kind, 0));
        }
    }

    private static void ranksAre(PloughingMatch match, String why, int... ploughmen) {
        for (int k = 0; k < ploughmen.length; k++) {
            CHECKS.due(why + ": rank(0, " + k + ")", match.rank(0, k), ploughmen[k]);
        }
        CHECKS.due(why + ": rank behind the last", match.rank(0, ploughmen.length), PloughingMatch.NONE);
    }
}
