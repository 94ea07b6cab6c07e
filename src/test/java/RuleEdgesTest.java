/** The boundary cases of promises 12 to 14, a test for each sentence that names one. */
public final class RuleEdgesTest {
    private static final Rows ROWS = new Rows();

    public static void main(String[] args) {
        feedFull();
        feedBytes();
        ruleOfSoManyBytes();
        ruleThatIsNone();
        sixKeys();
        partNumbers();
        words();
        signsBesideLetters();
        blanks();
        commas();
        ends();
        rankOutOfRange();
        rankOfAlike();
        rankOfNoneTold();
        ROWS.end();
    }

    private static void feedFull() {
        ROWS.test("Promise 12: twenty bytes come, how many there are", """
            feed(0, 0, 0, 0, 0) = 20
            feed(0, 0, 0, 0, 0) = 40
            count(7) = 40
            """);
        ROWS.test("Promise 12: 100 bytes are not more than 100", """
            4 times feed(0, 0, 0, 0, 0)
            feed(0, 0, 0, 0, 0) = 100
            count(7) = 100
            """);
        ROWS.test("Promise 12: NONE if there would be more than 100", """
            5 times feed(0, 0, 0, 0, 0)
            feed(0, 0, 0, 0, 0) = -1
            feed(max, min, -1, 1, 0) = -1
            count(7) = 100
            """);
        // 0x61676520 is "age ", 0x75702020 is "up  "
        ROWS.test("Promise 12: the bytes that are too many do nothing", """
            feed(0x61676520, 0x75702020, 0x20202020, 0x20202020, 0x20202020) = 20
            4 times feed(0x20202020, 0x20202020, 0x20202020, 0x20202020, 0x20202020)
            3 times feed(0, 0, 0, 0, 0) = -1
            rule(100) = 1
            """);
        ROWS.test("Promise 12: the TAPE that was full takes 100 bytes again behind a RULE", """
            5 times feed(0, 0, 0, 0, 0)
            rule(0) = -2
            feed(0, 0, 0, 0, 0) = 20
            3 times feed(0, 0, 0, 0, 0)
            feed(0, 0, 0, 0, 0) = 100
            feed(0, 0, 0, 0, 0) = -1
            """);
    }

    private static void feedBytes() {
        // "part", " 3 d", "own,", "age ", "up  "
        ROWS.test("Promise 12: of each number the highest byte first, and number by number", """
            feed(0x70617274, 0x20332064, 0x6f776e2c, 0x61676520, 0x75702020) = 20
            rule(20) = 2
            """);
        // the last byte of the first feed is "f", and "inal" comes with the second one
        ROWS.test("Promise 12: the bytes of the next feed come behind those of the last", """
            feed(0x20202020, 0x20202020, 0x20202020, 0x20202020, 0x20202066) = 20
            feed(0x696e616c, 0x20757020, 0x20202020, 0x20202020, 0x20202020) = 40
            rule(40) = 1
            """);
        // 0xe1 is 0x61 with the highest bit
        ROWS.test("Promise 12: a byte above 127 is no small letter", """
            feed(0xe1676520, 0x75702020, 0x20202020, 0x20202020, 0x20202020) = 20
            rule(20) = -2
            feed(0x616765a0, 0x75702020, 0x20202020, 0x20202020, 0x20202020) = 20
            rule(20) = -5
            feed(0x61676520, 0x7570ff20, 0x20202020, 0x20202020, 0x20202020) = 20
            rule(20) = -8
            """);
    }

    private static void ruleOfSoManyBytes() {
        ROWS.test("Promise 13: n is too small below 0", """
            text "final down"
            rule(-1) throws IllegalArgumentException
            rule(min) throws IllegalArgumentException
            rule(0) = -2
            """);
        ROWS.test("Promise 13: n is too large above the TAPE's bytes", """
            text "final down          "
            rule(21) throws IllegalArgumentException
            rule(max) throws IllegalArgumentException
            rule(20) = 1
            """);
        ROWS.test("Promise 13: n is too large above 0 for an empty TAPE", """
            rule(1) throws IllegalArgumentException
            rule(0) = -2
            """);
        ROWS.test("Promise 13: n is too large above 100 for a full TAPE", """
            5 times feed(0x20202020, 0x20202020, 0x20202020, 0x20202020, 0x20202020)
            rule(101) throws IllegalArgumentException
            rule(100) = -102
            """);
        ROWS.test("Promise 13: a wrong n leaves the TAPE and the RULE as they were", """
            rule "age up, sum up" = 2
            text "minutes down        "
            rule(21) throws IllegalArgumentException
            rule(-1) throws IllegalArgumentException
            count(7) = 20
            count(3) = 2
            rule(20) = 1
            """);
        ROWS.test("Promise 13: the first n bytes alone", """
            text "age up,sum down"
            rule(6) = 1
            text "age up,sum down"
            rule(7) = -9
            text "age up,sum down"
            rule(10) = -12
            """);
        ROWS.test("Promise 13: the TAPE is empty behind a RULE, and the bytes behind n are gone", """
            text "age up              "
            rule(6) = 1
            count(7) = 0
            rule(1) throws IllegalArgumentException
            """);
        ROWS.test("Promise 13: the TAPE is empty behind a text that is none", """
            text "age                 "
            rule(20) = -22
            count(7) = 0
            """);
        ROWS.test("Promise 13: the TAPE is empty behind a text of no bytes", """
            text "age up"
            rule(0) = -2
            count(7) = 0
            """);
    }

    private static void ruleThatIsNone() {
        ROWS.test("Promise 13: a text of no bytes has PLACE 0", """
            rule "" = -2
            count(3) = 1
            """);
        ROWS.test("Promise 13: the RULE stays, where a text is none", """
            drawn(3)
            rule "age down, minutes up" = 2
            rule "age up, sum up, final" = -23
            rule "" = -2
            rule "x" = -2
            count(3) = 2
            rank(0, 0) = 2
            rank(0, 2) = 0
            """);
        ROWS.test("Promise 13: the RULE of a new object stays, where a text is none", """
            drawn(2)
            protest(0, 1) = 1
            rule "age up," = -9
            count(3) = 1
            rank(0, 0) = 1
            """);
        ROWS.test("Promise 13: a RULE has its own KEYS alone, none of the last one's", """
            drawn(3)
            rule "minutes up,minutes up,minutes up,minutes up,minutes up,age down" = 6
            rank(0, 0) = 2
            rule "minutes up" = 1
            count(3) = 1
            rank(0, 0) = 0
            rank(0, 2) = 2
            """);
        ROWS.test("Promise 13: the first byte that can't stand there, not a later one", """
            rule "fine up,sam down" = -2
            rule "final up;sum down;" = -10
            rule "part 5 op" = -7
            """);
    }

    private static void sixKeys() {
        ROWS.test("Promise 13: 6 KEYS at most", """
            rule "sum up,sum up,sum up,sum up,sum up,sum up" = 6
            count(3) = 6
            """);
        ROWS.test("Promise 13: the \",\" ahead of a 7th KEY is the PLACE", """
            rule "sum up,sum up,sum up,sum up,sum up,sum up,sum up" = -43
            count(3) = 1
            """);
        ROWS.test("Promise 13: blanks may stand ahead of the \",\" that can't", """
            rule "sum up,sum up,sum up,sum up,sum up,sum up  , sum up" = -45
            """);
        ROWS.test("Promise 13: the \",\" behind the 6th KEY is the PLACE, also with no KEY behind it", """
            rule "sum up,sum up,sum up,sum up,sum up,sum up," = -43
            rule "sum up,sum up,sum up,sum up,sum up,sum up,x" = -43
            """);
        ROWS.test("Promise 13: blanks may stand behind the 6th KEY, but no WORD", """
            rule "sum up,sum up,sum up,sum up,sum up,sum up   " = 6
            rule "sum up,sum up,sum up,sum up,sum up,sum up sum up" = -44
            """);
        ROWS.test("Promise 13: 6 KEYS that fill 100 bytes", """
            rule "minutes    down,minutes    down,minutes    down,minutes    down,minutes    down,minutes    down     " = 6
            """);
    }

    private static void partNumbers() {
        ROWS.test("Promise 13: N is 0 at least", """
            rule "part 0 up" = 1
            rule "part / up" = -7
            rule "part -1 up" = -7
            """);
        ROWS.test("Promise 13: N is 4 at most, a digit above 4 is the PLACE", """
            rule "part 4 up" = 1
            rule "part 5 up" = -7
            rule "part 9 up" = -7
            rule "part : up" = -7
            """);
        ROWS.test("Promise 13: N is one digit, one more can't stand there", """
            rule "part 00 up" = -8
            rule "part 44 up" = -8
            rule "part 19 up" = -8
            rule "part 1 2 up" = -9
            """);
        ROWS.test("Promise 13: a digit above 4 is the PLACE, also with one more behind it", """
            rule "part 55 up" = -7
            rule "part 50 up" = -7
            """);
        ROWS.test("Promise 13: N can't be left out", """
            rule "part up" = -7
            rule "part ,age up" = -7
            """);
        ROWS.test("Promise 13: N can stand behind \"part\" alone", """
            rule "final 1 up" = -8
            rule "age1up" = -5
            rule "1 up" = -2
            rule "part 1 up 1" = -12
            """);
    }

    private static void words() {
        ROWS.test("Promise 13: each WORD that a KEY can begin with", """
            rule "final up" = 1
            rule "sum up" = 1
            rule "minutes up" = 1
            rule "age up" = 1
            rule "part 2 up" = 1
            """);
        ROWS.test("Promise 13: a WORD that can't has its first byte for PLACE", """
            rule "  horse up" = -4
            rule "final across" = -8
            """);
        ROWS.test("Promise 13: a WORD that is too short", """
            rule "fina up" = -2
            rule "su up" = -2
            rule "minute up" = -2
            rule "ag up" = -2
            rule "par 2 up" = -2
            rule "final u" = -8
            rule "final dow" = -8
            """);
        ROWS.test("Promise 13: a WORD has as many small letters as stand there", """
            rule "finals up" = -2
            rule "sums up" = -2
            rule "minutess up" = -2
            rule "ages up" = -2
            rule "parts 2 up" = -2
            rule "final ups" = -8
            rule "final downs" = -8
            rule "finalup" = -2
            rule "partup" = -2
            rule "part 2 upsum" = -9
            """);
        ROWS.test("Promise 13: a WORD that is another at its first, its last or a middle letter", """
            rule "binal up" = -2
            rule "finam up" = -2
            rule "sun up" = -2
            rule "minuses up" = -2
            rule "ace up" = -2
            rule "port 2 up" = -2
            rule "final op" = -8
            rule "final us" = -8
            rule "final dawn" = -8
            """);
        ROWS.test("Promise 13: a WORD that stands elsewhere can't", """
            rule "up" = -2
            rule "down final" = -2
            rule "final sum" = -8
            rule "final up down" = -11
            rule "final up sum up" = -11
            """);
        ROWS.test("Promise 13: a WORD of small letters, great ones can't stand there", """
            rule "Final up" = -2
            rule "finaL up" = -2
            rule "final Up" = -8
            rule "final dowN" = -8
            """);
    }

    /** 96 and 123 lie beside the small letters. */
    private static void signsBesideLetters() {
        ROWS.test("Promise 13: the signs beside the small letters are no letters", """
            rule "age up`" = -8
            rule "age up{" = -8
            rule "`age up" = -2
            rule "{age up" = -2
            rule "age` up" = -5
            rule "age{ up" = -5
            """);
        ROWS.test("Promise 13: the first and the last small letter make a WORD longer", """
            rule "agea up" = -2
            rule "agez up" = -2
            rule "age upa" = -6
            rule "age upz" = -6
            """);
    }

    private static void blanks() {
        ROWS.test("Promise 13: blanks may stand ahead of all, and at the end", """
            rule "   part   2   up   ,   age   down   " = 2
            """);
        ROWS.test("Promise 13: no blank need stand beside N and \",\"", """
            rule "part2up,part0down,age up" = 3
            """);
        ROWS.test("Promise 13: a text of blanks alone has its length for PLACE", """
            rule " " = -3
            rule "                    " = -22
            """);
        // 33, 9, 0 and 31 lie beside the blank or are blank elsewhere
        ROWS.test("Promise 13: a blank is 32 alone", """
            rule "age!up" = -5
            rule "age\tup" = -5
            rule "age up\0" = -8
            rule "age up\037" = -8
            rule "\tage up" = -2
            """);
        ROWS.test("Promise 13: a blank within a WORD ends it", """
            rule "fin al up" = -2
            rule "final u p" = -8
            rule "final do wn" = -8
            """);
    }

    private static void commas() {
        ROWS.test("Promise 13: a \",\" can't stand ahead of the first KEY", """
            rule "," = -2
            rule " ,age up" = -3
            """);
        ROWS.test("Promise 13: a \",\" can't stand within a KEY", """
            rule "age,up" = -5
            rule "part,2 up" = -6
            rule "part 2,up" = -8
            """);
        ROWS.test("Promise 13: a second \",\" can't stand behind the first", """
            rule "age up,,age up" = -9
            rule "age up, ,age up" = -10
            """);
        ROWS.test("Promise 13: KEYS can't stand without a \",\" between, nor with another sign", """
            rule "age up age up" = -9
            rule "age up;age up" = -8
            rule "age up+age up" = -8
            rule "age up-age up" = -8
            """);
    }

    private static void ends() {
        ROWS.test("Promise 13: the end can't stand ahead of \"up\" or \"down\"", """
            rule "age" = -5
            rule "age  " = -7
            rule "part 2" = -8
            rule "part 2 " = -9
            """);
        ROWS.test("Promise 13: the end can't stand ahead of N", """
            rule "part" = -6
            rule "part  " = -8
            """);
        ROWS.test("Promise 13: the end can't stand behind a \",\"", """
            rule "age up," = -9
            rule "age up,  " = -11
            """);
        ROWS.test("Promise 13: the end of the text is n, whatever stands on the TAPE behind it", """
            text "part 3 up"
            rule(4) = -6
            text "part 3 up"
            rule(5) = -7
            text "part 3 up"
            rule(6) = -8
            text "part 3 up"
            rule(8) = -9
            text "part 3 up"
            rule(9) = 1
            """);
    }

    private static void rankOutOfRange() {
        ROWS.test("Promise 14: a CLASS is too small below 0", """
            drawn(1)
            rank(-1, 0) throws IllegalArgumentException
            rank(min, 0) throws IllegalArgumentException
            rank(0, 0) = 0
            """);
        ROWS.test("Promise 14: a CLASS is too large above 2", """
            ploughman(2, 30, 0) = 0
            draw() = 1
            rank(3, 0) throws IllegalArgumentException
            rank(max, 0) throws IllegalArgumentException
            rank(2, 0) = 0
            """);
        ROWS.test("Promise 14: no such CLASS, also ahead of the draw", """
            rank(3, 0) throws IllegalArgumentException
            rank(-1, 0) throws IllegalArgumentException
            """);
        ROWS.test("Promise 14: NONE ahead of the draw", """
            rank(0, 0) = -1
            ploughman(0, 30, 0) = 0
            rank(0, 0) = -1
            draw() = 1
            rank(0, 0) = 0
            """);
        ROWS.test("Promise 14: NONE behind the last of the CLASS", """
            drawn(24)
            rank(0, 23) = 23
            rank(0, 24) = -1
            rank(0, max) = -1
            """);
        ROWS.test("Promise 14: NONE ahead of the first of the CLASS", """
            drawn(2)
            rank(0, 0) = 0
            rank(0, -1) = -1
            rank(0, min) = -1
            """);
        ROWS.test("Promise 14: NONE in a CLASS without PLOUGHMEN", """
            drawn(2)
            rank(1, 0) = -1
            rank(2, 0) = -1
            """);
        ROWS.test("Promise 14: the PLOUGHMEN of the CLASS alone, behind another CLASS's RANKS too", """
            ploughman(0, 30, 0) = 0
            ploughman(1, 30, 0) = 1
            ploughman(0, 30, 0) = 2
            2 times noise(0)
            draw() = 3
            rank(0, 1) = 2
            rank(1, 0) = 1
            rank(1, 1) = -1
            rank(0, 2) = -1
            """);
    }

    private static void rankOfAlike() {
        ROWS.test("Promise 14: up has the least first, down the greatest", """
            drawn(3)
            rule "age up" = 1
            rank(0, 0) = 0
            rank(0, 2) = 2
            rule "age down" = 1
            rank(0, 0) = 2
            rank(0, 2) = 0
            """);
        ROWS.test("Promise 14: alike ones by number, up as well as down", """
            3 times ploughman(0, 30, 0)
            2 times noise(0)
            draw() = 3
            rule "age up" = 1
            rank(0, 0) = 0
            rank(0, 1) = 1
            rank(0, 2) = 2
            rule "age down" = 1
            rank(0, 0) = 0
            rank(0, 1) = 1
            rank(0, 2) = 2
            """);
        ROWS.test("Promise 14: alike ones by the next KEY", """
            drawn(3)
            minutes(1, 9) = 0
            minutes(2, 9) = 0
            rule "minutes up, age down" = 2
            rank(0, 0) = 0
            rank(0, 1) = 2
            rank(0, 2) = 1
            """);
        ROWS.test("Promise 14: the next KEY is not looked at where the first one differs", """
            drawn(2)
            minutes(1, 9) = 0
            rule "age up, minutes down" = 2
            rank(0, 0) = 0
            rule "minutes down, age up" = 2
            rank(0, 0) = 1
            """);
        ROWS.test("Promise 14: the sixth KEY, where five are alike", """
            drawn(3)
            rule "sum up,minutes up,part 0 up,part 4 up,sum down,age down" = 6
            rank(0, 0) = 2
            rank(0, 1) = 1
            rank(0, 2) = 0
            """);
        ROWS.test("Promise 14: a FINAL below 0 is below one of 0", """
            drawn(2)
            protest(1, 1) = 1
            rule "final up" = 1
            rank(0, 0) = 1
            rule "final down" = 1
            rank(0, 0) = 0
            """);
        ROWS.test("Promise 14: \"sum\" and \"minutes\" at their ends", """
            drawn(2)
            mark(0, 1, 0, 20) = -1
            minutes(0, 600) = 0
            rule "sum down" = 1
            rank(0, 0) = 1
            rule "sum up" = 1
            rank(0, 0) = 0
            rule "minutes up" = 1
            rank(0, 0) = 1
            rule "minutes down" = 1
            rank(0, 0) = 0
            """);
    }

    private static void rankOfNoneTold() {
        for (int part = 0; part < 5; part++) {
            // TOLD of the three PLOTS: none, 1000 and -2000
            ROWS.test("Promise 14: none TOLD is below all, below the least TOLD too, in PART " + part, """
                drawn(3)
                mark(0, 1, %1$d, 0) = -1
                mark(1, 1, %1$d, 20) = -1
                mark(1, 2, %1$d, 0) = -1
                told(2, %1$d) = -2000
                rule "part %1$d up" = 1
                rank(0, 0) = 0
                rank(0, 1) = 2
                rank(0, 2) = 1
                rule "part %1$d down" = 1
                rank(0, 0) = 1
                rank(0, 1) = 2
                rank(0, 2) = 0
                """.formatted(part));
        }
        ROWS.test("Promise 14: none TOLD is below a TOLD of 0", """
            drawn(2)
            mark(0, 0, 0, 0) = -1
            told(0, 0) = 0
            rule "part 0 up" = 1
            rank(0, 0) = 1
            """);
        ROWS.test("Promise 14: those with none TOLD are alike, and stand by the next KEY", """
            drawn(3)
            mark(0, 0, 3, 5) = -1
            rule "part 3 down, age down" = 2
            rank(0, 0) = 0
            rank(0, 1) = 2
            rank(0, 2) = 1
            rule "part 3 up" = 1
            rank(0, 0) = 1
            rank(0, 1) = 2
            rank(0, 2) = 0
            """);
    }
}
