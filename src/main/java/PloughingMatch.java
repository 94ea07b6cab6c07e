import java.util.Arrays;

/** A ploughing match, as the document's promises 1 to 20 tell it. */
public final class PloughingMatch {
    public static final int NONE = -1;

    private static final int CLASSES = 3;
    private static final int CLUBS = 10;
    private static final int JUDGES = 4;
    private static final int PARTS = 5;
    private static final int LEAST_AGE = 10;
    private static final int MOST_AGE = 99;
    private static final int MOST_PLOUGHMEN = 24;
    private static final int MOST_NOISE = 30;
    private static final int MOST_MARK = 20;
    private static final int MOST_MINUTES = 600;
    private static final int FIRST_LIMIT = 200;
    private static final int MOST_OFF = 1000;
    private static final int MOST_DAYS = 1000;
    private static final int MOST_KEYS = 6;
    private static final int MOST_BYTES = 100;
    private static final int MOST_LINES = 600;
    private static final int NOT_TOLD = -100000;

    /** What a KEY looks at; PART N is PART_0 and N. */
    private static final int BY_FINAL = 0;
    private static final int BY_SUM = 1;
    private static final int BY_MINUTES = 2;
    private static final int BY_AGE = 3;
    private static final int BY_PART_0 = 4;

    private static final int[] PRIZES = {10, 6, 4, 3, 2, 1};

    private final Noise noise;
    private final Entries entries;
    private final Sheet sheet;
    private final Results results;
    private final Tape tape;
    private final Keys keys;
    private final RuleReader reader;
    private final Ranking ranking;
    private final Book book;
    private final int[] clubPoints;
    private int day;

    public PloughingMatch() {
        noise = new Noise();
        entries = new Entries();
        sheet = new Sheet();
        results = new Results(sheet);
        tape = new Tape();
        keys = new Keys();
        reader = new RuleReader(tape);
        ranking = new Ranking(entries, sheet, results, keys);
        book = new Book();
        clubPoints = new int[CLUBS];
        day = 0;
        keys.append(BY_FINAL, false);
    }

    public int ploughman(int kind, int age, int club) throws IllegalArgumentException, IllegalStateException {
        requireArgument(isBelow(kind, CLASSES));
        requireArgument(age >= LEAST_AGE && age <= MOST_AGE);
        requireArgument(isBelow(club, CLUBS));
        if (entries.isDrawn() || entries.isFull()) {
            throw new IllegalStateException("no ploughman can come any more");
        }
        return entries.enter(kind, age, club);
    }

    public int noise(int v) {
        return noise.append(v);
    }

    public int draw() throws IllegalStateException {
        if (entries.isDrawn()) {
            throw new IllegalStateException("the plots are drawn");
        }
        int ploughmen = entries.size();
        if (ploughmen == 0) {
            return -2;
        }
        if (noise.size() < ploughmen - 1) {
            return -1;
        }
        entries.drawBy(noise);
        noise.clear();
        sheet.open(ploughmen);
        return ploughmen;
    }

    public int plot(int ploughman) throws IndexOutOfBoundsException {
        requireIndex(ploughman, entries.size());
        return entries.isDrawn() ? entries.plotOf(ploughman) : NONE;
    }

    public int mark(int judge, int plot, int part, int mark)
            throws IndexOutOfBoundsException, IllegalArgumentException {
        requireIndex(plot, entries.plots());
        requireArgument(isBelow(judge, JUDGES));
        requireArgument(isBelow(part, PARTS));
        requireArgument(mark >= NONE && mark <= MOST_MARK);
        return sheet.put(judge, plot, part, mark);
    }

    public int hard(int judge, int part) throws IllegalArgumentException {
        requireArgument(isBelow(judge, JUDGES));
        requireArgument(isBelow(part, PARTS));
        return sheet.hardOf(judge, part);
    }

    public int told(int plot, int part) throws IndexOutOfBoundsException, IllegalArgumentException {
        requireIndex(plot, entries.plots());
        requireArgument(isBelow(part, PARTS));
        return sheet.toldOf(plot, part);
    }

    public int about(int plot, int what) throws IndexOutOfBoundsException, IllegalArgumentException {
        requireIndex(plot, entries.plots());
        switch (what) {
            case 0:
                return sheet.sumOf(plot);
            case 1:
                return sheet.untoldOf(plot);
            case 2:
                return sheet.groundOf(plot);
            case 3:
                return results.minutesOf(plot);
            case 4:
                return results.takenOff(plot);
            case 5:
                return results.finalOf(plot);
            case 6:
                return entries.ploughmanOf(plot);
            default:
                throw new IllegalArgumentException("nothing is told under this number");
        }
    }

    public int minutes(int plot, int minutes) throws IndexOutOfBoundsException, IllegalArgumentException {
        requireIndex(plot, entries.plots());
        requireArgument(minutes >= 0 && minutes <= MOST_MINUTES);
        return results.setMinutes(plot, minutes);
    }

    public int limit(int minutes) throws IllegalArgumentException {
        requireArgument(minutes >= 0 && minutes <= MOST_MINUTES);
        return results.setLimit(minutes);
    }

    public int feed(int a, int b, int c, int d, int e) {
        if (!tape.hasRoom()) {
            return NONE;
        }
        tape.append(a);
        tape.append(b);
        tape.append(c);
        tape.append(d);
        tape.append(e);
        return tape.size();
    }

    public int rule(int n) throws IllegalArgumentException {
        requireArgument(n >= 0 && n <= tape.size());
        tape.cut(n);
        boolean isRule = reader.read();
        tape.cut(0);
        if (!isRule) {
            return -2 - reader.place();
        }
        keys.copyFrom(reader.draft());
        return keys.size();
    }

    public int rank(int kind, int k) throws IllegalArgumentException {
        requireArgument(isBelow(kind, CLASSES));
        if (!entries.isDrawn()) {
            return NONE;
        }
        ranking.arrange(kind);
        return ranking.ploughmanAt(k);
    }

    public int protest(int plot, int off) throws IndexOutOfBoundsException, IllegalArgumentException {
        requireIndex(plot, entries.plots());
        requireArgument(off >= 1 && off <= MOST_OFF);
        return results.takeOff(plot, off);
    }

    public int publish() {
        if (!entries.isDrawn()) {
            return -1;
        }
        Arrays.fill(clubPoints, 0);
        for (int kind = 0; kind < CLASSES; kind++) {
            awardPrizes(kind);
        }
        return book.write(day, clubPoints);
    }

    public int points(int club, int day) throws IllegalArgumentException {
        requireArgument(isBelow(club, CLUBS));
        return book.knownOf(club, day);
    }

    public int line(int k, int what) throws IndexOutOfBoundsException, IllegalArgumentException {
        requireIndex(k, book.size());
        switch (what) {
            case 0:
                return book.dayAt(k);
            case 1:
                return book.clubAt(k);
            case 2:
                return book.differenceAt(k);
            default:
                throw new IllegalArgumentException("a line holds nothing under this number");
        }
    }

    public int wait(int days) throws IllegalArgumentException {
        requireArgument(days >= 0 && days <= MOST_DAYS);
        day += days;
        return day;
    }

    public int count(int what) {
        switch (what) {
            case 0:
                return entries.size();
            case 1:
                return entries.plots();
            case 2:
                return sheet.size();
            case 3:
                return keys.size();
            case 4:
                return book.size();
            case 5:
                return day;
            case 6:
                return noise.size();
            case 7:
                return tape.size();
            default:
                return NONE;
        }
    }

    private void awardPrizes(int kind) {
        ranking.arrange(kind);
        int winners = Math.min(PRIZES.length, ranking.size());
        for (int k = 0; k < winners; k++) {
            clubPoints[entries.clubOf(ranking.ploughmanAt(k))] += PRIZES[k];
        }
    }

    private static boolean isBelow(int value, int bound) {
        return value >= 0 && value < bound;
    }

    private static void requireArgument(boolean holds) {
        if (!holds) {
            throw new IllegalArgumentException("an argument is out of its range");
        }
    }

    private static void requireIndex(int index, int size) {
        if (!isBelow(index, size)) {
            throw new IndexOutOfBoundsException("there is none with this number");
        }
    }

    /** The told numbers that a draw uses. */
    private static final class Noise {
        private final int[] numbers = new int[MOST_NOISE];
        private int size = 0;

        int append(int number) {
            if (size >= MOST_NOISE) {
                return NONE;
            }
            numbers[size] = number;
            size++;
            return size;
        }

        int size() {
            return size;
        }

        void clear() {
            size = 0;
        }

        /** What the k-th number, taken without sign, leaves by a divisor. */
        int remainder(int k, int divisor) {
            if (!isBelow(k, size) || divisor < 1) {
                return 0;
            }
            return (int) ((numbers[k] & 0xFFFFFFFFL) % divisor);
        }
    }

    /** The PLOUGHMEN and, once they are drawn, their PLOTS. */
    private static final class Entries {
        private final int[] kinds = new int[MOST_PLOUGHMEN];
        private final int[] ages = new int[MOST_PLOUGHMEN];
        private final int[] clubs = new int[MOST_PLOUGHMEN];
        private final int[] plotByPloughman = new int[MOST_PLOUGHMEN];
        private final int[] ploughmanByPlot = new int[MOST_PLOUGHMEN];
        private int size = 0;
        private boolean drawn = false;

        /** The caller has seen that there is room. */
        int enter(int kind, int age, int club) {
            int number = size;
            kinds[number] = kind;
            ages[number] = age;
            clubs[number] = club;
            size++;
            return number;
        }

        void drawBy(Noise noise) {
            for (int place = 0; place < size; place++) {
                plotByPloughman[place] = place;
            }
            for (int place = size - 1; place >= 1; place--) {
                int other = noise.remainder(size - 1 - place, place + 1);
                int moved = plotByPloughman[place];
                plotByPloughman[place] = plotByPloughman[other];
                plotByPloughman[other] = moved;
            }
            for (int place = 0; place < size; place++) {
                ploughmanByPlot[plotByPloughman[place]] = place;
            }
            drawn = true;
        }

        boolean isFull() {
            return size >= MOST_PLOUGHMEN;
        }

        boolean isDrawn() {
            return drawn;
        }

        int size() {
            return size;
        }

        int plots() {
            return drawn ? size : 0;
        }

        int kindOf(int ploughman) {
            return kinds[ploughman];
        }

        int ageOf(int ploughman) {
            return ages[ploughman];
        }

        int clubOf(int ploughman) {
            return clubs[ploughman];
        }

        int plotOf(int ploughman) {
            return plotByPloughman[ploughman];
        }

        int ploughmanOf(int plot) {
            return ploughmanByPlot[plot];
        }
    }

    /**
     * The MARKS, and what follows from them alone: HARD, TOLD, SUM and GROUND.
     * One MARK moves HARD, and so what is TOLD of many PLOTS: behind each change
     * the rows are worked out again, so that they always agree with the MARKS.
     */
    private static final class Sheet {
        private final int[] marks = new int[JUDGES * MOST_PLOUGHMEN * PARTS];
        private final int[] hards = new int[JUDGES * PARTS];
        private final int[] tolds = new int[MOST_PLOUGHMEN * PARTS];
        private final int[] sums = new int[MOST_PLOUGHMEN];
        private final int[] grounds = new int[MOST_PLOUGHMEN];
        private int plots = 0;
        private int size = 0;

        Sheet() {
            Arrays.fill(marks, NONE);
            Arrays.fill(tolds, NOT_TOLD);
        }

        void open(int drawnPlots) {
            plots = drawnPlots;
        }

        int size() {
            return size;
        }

        /** Answers what the MARK was. */
        int put(int judge, int plot, int part, int mark) {
            int place = placeOf(judge, plot, part);
            int before = marks[place];
            marks[place] = mark;
            size += (mark == NONE ? 0 : 1) - (before == NONE ? 0 : 1);
            workOutPart(part);
            workOutSums();
            workOutGrounds();
            return before;
        }

        int hardOf(int judge, int part) {
            return hards[judge * PARTS + part];
        }

        int toldOf(int plot, int part) {
            return tolds[plot * PARTS + part];
        }

        int sumOf(int plot) {
            return sums[plot];
        }

        int groundOf(int plot) {
            return grounds[plot];
        }

        int untoldOf(int plot) {
            int untold = 0;
            for (int part = 0; part < PARTS; part++) {
                if (toldOf(plot, part) == NOT_TOLD) {
                    untold++;
                }
            }
            return untold;
        }

        private static int placeOf(int judge, int plot, int part) {
            return (judge * MOST_PLOUGHMEN + plot) * PARTS + part;
        }

        /** TOLD uses every JUDGE's HARD, so these come first. */
        private void workOutPart(int part) {
            for (int judge = 0; judge < JUDGES; judge++) {
                hards[judge * PARTS + part] = workOutHard(judge, part);
            }
            for (int plot = 0; plot < plots; plot++) {
                tolds[plot * PARTS + part] = workOutTold(plot, part);
            }
        }

        private int workOutHard(int judge, int part) {
            int sum = 0;
            int pairs = 0;
            for (int plot = 0; plot < plots; plot++) {
                int own = marks[placeOf(judge, plot, part)];
                if (own == NONE) {
                    continue;
                }
                for (int other = 0; other < JUDGES; other++) {
                    int met = marks[placeOf(other, plot, part)];
                    if (other != judge && met != NONE) {
                        sum += met - own;
                        pairs++;
                    }
                }
            }
            return pairs == 0 ? 0 : Math.floorDiv(100 * sum, pairs);
        }

        private int workOutTold(int plot, int part) {
            int sum = 0;
            int judges = 0;
            for (int judge = 0; judge < JUDGES; judge++) {
                int mark = marks[placeOf(judge, plot, part)];
                if (mark != NONE) {
                    sum += 100 * mark + hardOf(judge, part);
                    judges++;
                }
            }
            return judges == 0 ? NOT_TOLD : Math.floorDiv(sum, judges);
        }

        private void workOutSums() {
            for (int plot = 0; plot < plots; plot++) {
                int sum = 0;
                for (int part = 0; part < PARTS; part++) {
                    int told = toldOf(plot, part);
                    sum += told == NOT_TOLD ? 0 : told;
                }
                sums[plot] = sum;
            }
        }

        /** One PLOT alone has no neighbours, and its GROUND stays 0. */
        private void workOutGrounds() {
            if (plots < 2) {
                return;
            }
            int all = 0;
            for (int plot = 0; plot < plots; plot++) {
                all += sums[plot];
            }
            int mean = Math.floorDiv(all, plots);
            for (int plot = 0; plot < plots; plot++) {
                grounds[plot] = Math.floorDiv(neighboursMean(plot) - mean, 4);
            }
        }

        private int neighboursMean(int plot) {
            if (plot == 0) {
                return sums[1];
            }
            if (plot == plots - 1) {
                return sums[plot - 1];
            }
            return Math.floorDiv(sums[plot - 1] + sums[plot + 1], 2);
        }
    }

    /** MINUTES, LIMIT and PROTESTS, and FINAL, which they lead to. */
    private static final class Results {
        private final Sheet sheet;
        private final int[] minutesByPlot = new int[MOST_PLOUGHMEN];
        private final int[] offByPlot = new int[MOST_PLOUGHMEN];
        private int allowed = FIRST_LIMIT;

        Results(Sheet sheet) {
            this.sheet = sheet;
        }

        int minutesOf(int plot) {
            return minutesByPlot[plot];
        }

        /** Answers what they were. */
        int setMinutes(int plot, int minutes) {
            int before = minutesByPlot[plot];
            minutesByPlot[plot] = minutes;
            return before;
        }

        /** Answers what it was. */
        int setLimit(int minutes) {
            int before = allowed;
            allowed = minutes;
            return before;
        }

        int takenOff(int plot) {
            return offByPlot[plot];
        }

        /** Answers what is taken off in all. */
        int takeOff(int plot, int off) {
            offByPlot[plot] += off;
            return offByPlot[plot];
        }

        int finalOf(int plot) {
            return sheet.sumOf(plot) - sheet.groundOf(plot) - overtimeOf(plot) - offByPlot[plot];
        }

        private int overtimeOf(int plot) {
            int over = minutesByPlot[plot] - allowed;
            return over <= 0 ? 0 : (over + 4) / 5 * 50;
        }
    }

    /** The bytes that were fed, each 0 to 255. */
    private static final class Tape {
        private static final int FED_AT_ONCE = 20;

        private final int[] bytes = new int[MOST_BYTES];
        private int size = 0;

        boolean hasRoom() {
            return size + FED_AT_ONCE <= MOST_BYTES;
        }

        void append(int number) {
            for (int shift = 24; shift >= 0 && size < MOST_BYTES; shift -= 8) {
                bytes[size] = (number >>> shift) & 255;
                size++;
            }
        }

        int size() {
            return size;
        }

        /** NONE behind the last one. */
        int byteAt(int place) {
            return place >= 0 && place < size ? bytes[place] : NONE;
        }

        /** Keeps the first bytes alone. */
        void cut(int kept) {
            if (kept >= 0 && kept < size) {
                size = kept;
            }
        }
    }

    /** The KEYS of a RULE, in their order. */
    private static final class Keys {
        private final int[] measures = new int[MOST_KEYS];
        private final boolean[] ups = new boolean[MOST_KEYS];
        private int size = 0;

        void append(int measure, boolean up) {
            if (size < MOST_KEYS) {
                measures[size] = measure;
                ups[size] = up;
                size++;
            }
        }

        void clear() {
            size = 0;
        }

        void copyFrom(Keys other) {
            clear();
            for (int k = 0; k < other.size; k++) {
                append(other.measures[k], other.ups[k]);
            }
        }

        int size() {
            return size;
        }

        int measureAt(int k) {
            return measures[k];
        }

        boolean isUp(int k) {
            return ups[k];
        }
    }

    /** Reads a RULE off the TAPE, or finds the PLACE where it is none. */
    private static final class RuleReader {
        private final Tape tape;
        private final Keys draft = new Keys();
        private int length = 0;
        private int at = 0;
        /** Kept, because a WORD that can't stand there has its PLACE at its first byte. */
        private int wordStart = 0;

        RuleReader(Tape tape) {
            this.tape = tape;
        }

        /** The KEYS of the last text that was a RULE. */
        Keys draft() {
            return draft;
        }

        /** Where the last text, which was no RULE, went wrong. */
        int place() {
            return at;
        }

        /** Whether the bytes of the TAPE are a RULE. */
        boolean read() {
            length = tape.size();
            at = 0;
            draft.clear();
            for (int k = 0; k < MOST_KEYS; k++) {
                if (!readKey()) {
                    return false;
                }
                skipBlanks();
                if (at >= length) {
                    return true;
                }
                if (tape.byteAt(at) != ',' || k == MOST_KEYS - 1) {
                    return false;
                }
                at++;
            }
            return false;
        }

        private boolean readKey() {
            int measure = readMeasure();
            if (measure == NONE) {
                return false;
            }
            readWord();
            boolean up = isWord("up");
            if (!up && !isWord("down")) {
                at = wordStart;
                return false;
            }
            draft.append(measure, up);
            return true;
        }

        private int readMeasure() {
            readWord();
            if (isWord("final")) {
                return BY_FINAL;
            }
            if (isWord("sum")) {
                return BY_SUM;
            }
            if (isWord("minutes")) {
                return BY_MINUTES;
            }
            if (isWord("age")) {
                return BY_AGE;
            }
            if (isWord("part")) {
                return readPart();
            }
            at = wordStart;
            return NONE;
        }

        private int readPart() {
            skipBlanks();
            int part = tape.byteAt(at) - '0';
            if (part < 0 || part >= PARTS) {
                return NONE;
            }
            at++;
            return BY_PART_0 + part;
        }

        /** Goes behind the blanks and behind all the small letters that stand there. */
        private void readWord() {
            skipBlanks();
            wordStart = at;
            while (at < length && tape.byteAt(at) >= 'a' && tape.byteAt(at) <= 'z') {
                at++;
            }
        }

        private boolean isWord(String word) {
            if (at - wordStart != word.length()) {
                return false;
            }
            for (int k = 0; k < word.length(); k++) {
                if (tape.byteAt(wordStart + k) != word.charAt(k)) {
                    return false;
                }
            }
            return true;
        }

        private void skipBlanks() {
            while (at < length && tape.byteAt(at) == ' ') {
                at++;
            }
        }
    }

    /** The PLOUGHMEN of one CLASS by the RULE, arranged in one row that is used again. */
    private static final class Ranking {
        private final Entries entries;
        private final Sheet sheet;
        private final Results results;
        private final Keys keys;
        private final int[] order = new int[MOST_PLOUGHMEN];
        private int size = 0;

        Ranking(Entries entries, Sheet sheet, Results results, Keys keys) {
            this.entries = entries;
            this.sheet = sheet;
            this.results = results;
            this.keys = keys;
        }

        /** PLOUGHMEN come by number and pass only those that they beat, so alike ones stay by number. */
        void arrange(int kind) {
            size = 0;
            for (int ploughman = 0; ploughman < entries.size(); ploughman++) {
                if (entries.kindOf(ploughman) != kind) {
                    continue;
                }
                int place = size;
                while (place > 0 && beats(ploughman, order[place - 1])) {
                    order[place] = order[place - 1];
                    place--;
                }
                order[place] = ploughman;
                size++;
            }
        }

        int size() {
            return size;
        }

        int ploughmanAt(int k) {
            return isBelow(k, size) ? order[k] : NONE;
        }

        private boolean beats(int ploughman, int other) {
            for (int k = 0; k < keys.size(); k++) {
                int own = valueOf(ploughman, keys.measureAt(k));
                int met = valueOf(other, keys.measureAt(k));
                if (own != met) {
                    return (own < met) == keys.isUp(k);
                }
            }
            return false;
        }

        private int valueOf(int ploughman, int measure) {
            int plot = entries.plotOf(ploughman);
            switch (measure) {
                case BY_FINAL:
                    return results.finalOf(plot);
                case BY_SUM:
                    return sheet.sumOf(plot);
                case BY_MINUTES:
                    return results.minutesOf(plot);
                case BY_AGE:
                    return entries.ageOf(ploughman);
                default:
                    return sheet.toldOf(plot, measure - BY_PART_0);
            }
        }
    }

    /** The county BOOK: lines are only ever added, so that what was known on a DAY stays. */
    private static final class Book {
        private final int[] days = new int[MOST_LINES];
        private final int[] clubs = new int[MOST_LINES];
        private final int[] differences = new int[MOST_LINES];
        private final int[] knownByClub = new int[CLUBS];
        private int size = 0;

        int size() {
            return size;
        }

        int dayAt(int k) {
            return days[k];
        }

        int clubAt(int k) {
            return clubs[k];
        }

        int differenceAt(int k) {
            return differences[k];
        }

        /** What the lines up to the end of a DAY tell of a CLUB. */
        int knownOf(int club, int day) {
            int known = 0;
            for (int k = 0; k < size; k++) {
                if (clubs[k] == club && days[k] <= day) {
                    known += differences[k];
                }
            }
            return known;
        }

        /** How many lines came; -2, and nothing changes, if there is no room for them all. */
        int write(int day, int[] clubPoints) {
            int due = linesDue(clubPoints);
            if (size + due > MOST_LINES) {
                return -2;
            }
            for (int club = 0; club < CLUBS; club++) {
                int difference = clubPoints[club] - knownByClub[club];
                if (difference != 0) {
                    days[size] = day;
                    clubs[size] = club;
                    differences[size] = difference;
                    knownByClub[club] = clubPoints[club];
                    size++;
                }
            }
            return due;
        }

        private int linesDue(int[] clubPoints) {
            int due = 0;
            for (int club = 0; club < CLUBS; club++) {
                if (clubPoints[club] != knownByClub[club]) {
                    due++;
                }
            }
            return due;
        }
    }
}
