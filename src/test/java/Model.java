import java.util.ArrayList;
import java.util.Collections;
import java.util.Comparator;
import java.util.HashMap;
import java.util.List;
import java.util.Map;

/** The document once more, written straight from its words with the Java library, to compare with. */
final class Model {
    private record Ploughman(int kind, int age, int club) { }

    private record Line(int day, int club, int difference) { }

    private record Key(String word, int part, boolean up) { }

    private record Token(char kind, int place, String text) { }

    private final List<Ploughman> ploughmen = new ArrayList<>();
    private final List<Integer> noise = new ArrayList<>();
    private final List<Integer> places = new ArrayList<>();
    private final Map<List<Integer>, Integer> marks = new HashMap<>();
    private final int[] minutes = new int[24];
    private final int[] off = new int[24];
    private final StringBuilder tape = new StringBuilder();
    private final List<Line> book = new ArrayList<>();
    private List<Key> keys = List.of(new Key("final", 0, false));
    private boolean drawn = false;
    private int limit = 200;
    private int day = 0;

    /** Answers a call by its name; throws what the document says. */
    int call(String name, int[] a) {
        return switch (name) {
            case "ploughman" -> enter(a[0], a[1], a[2]);
            case "noise" -> noise.size() == 30 ? -1 : addNoise(a[0]);
            case "draw" -> drawPlots();
            case "plot" -> plotOf(a[0]);
            case "mark" -> putMark(a[0], a[1], a[2], a[3]);
            case "hard" -> hardOf(a[0], a[1]);
            case "told" -> toldChecked(a[0], a[1]);
            case "about" -> tellAbout(a[0], a[1]);
            case "minutes" -> putMinutes(a[0], a[1]);
            case "limit" -> putLimit(a[0]);
            case "feed" -> feedTape(a);
            case "rule" -> readRule(a[0]);
            case "rank" -> rankAt(a[0], a[1]);
            case "protest" -> takeOff(a[0], a[1]);
            case "publish" -> writeBook();
            case "points" -> pointsOn(a[0], a[1]);
            case "line" -> lineAt(a[0], a[1]);
            case "wait" -> goOn(a[0]);
            default -> countOf(a[0]);
        };
    }

    private static void argument(int value, int least, int most) {
        if (value < least || value > most) {
            throw new IllegalArgumentException();
        }
    }

    private void plotThere(int plot) {
        if (!drawn || plot < 0 || plot >= ploughmen.size()) {
            throw new IndexOutOfBoundsException();
        }
    }

    private int enter(int kind, int age, int club) {
        argument(kind, 0, 2);
        argument(age, 10, 99);
        argument(club, 0, 9);
        if (drawn || ploughmen.size() == 24) {
            throw new IllegalStateException();
        }
        ploughmen.add(new Ploughman(kind, age, club));
        return ploughmen.size() - 1;
    }

    private int addNoise(int v) {
        noise.add(v);
        return noise.size();
    }

    private int drawPlots() {
        if (drawn) {
            throw new IllegalStateException();
        }
        if (ploughmen.isEmpty()) {
            return -2;
        }
        if (noise.size() < ploughmen.size() - 1) {
            return -1;
        }
        for (int k = 0; k < ploughmen.size(); k++) {
            places.add(k);
        }
        for (int i = ploughmen.size() - 1; i >= 1; i--) {
            Collections.swap(places, i, Integer.remainderUnsigned(noise.remove(0), i + 1));
        }
        noise.clear();
        drawn = true;
        return ploughmen.size();
    }

    private int plotOf(int ploughman) {
        if (ploughman < 0 || ploughman >= ploughmen.size()) {
            throw new IndexOutOfBoundsException();
        }
        return drawn ? places.get(ploughman) : -1;
    }

    private int putMark(int judge, int plot, int part, int mark) {
        plotThere(plot);
        argument(judge, 0, 3);
        argument(part, 0, 4);
        argument(mark, -1, 20);
        List<Integer> at = List.of(judge, plot, part);
        Integer before = mark == -1 ? marks.remove(at) : marks.put(at, mark);
        return before == null ? -1 : before;
    }

    private static int floor(long sum, long by) {
        double exact = Math.floor((double) sum / by);
        return (int) exact;
    }

    private int hardOf(int judge, int part) {
        argument(judge, 0, 3);
        argument(part, 0, 4);
        long sum = 0;
        int pairs = 0;
        for (Map.Entry<List<Integer>, Integer> own : marks.entrySet()) {
            for (Map.Entry<List<Integer>, Integer> other : marks.entrySet()) {
                List<Integer> mine = own.getKey();
                List<Integer> his = other.getKey();
                if (mine.get(0) == judge && his.get(0) != judge && mine.get(1).equals(his.get(1))
                        && mine.get(2) == part && his.get(2) == part) {
                    sum += other.getValue() - own.getValue();
                    pairs++;
                }
            }
        }
        return pairs == 0 ? 0 : floor(100 * sum, pairs);
    }

    private int[] hardsOf(int part) {
        int[] hards = new int[4];
        for (int judge = 0; judge < 4; judge++) {
            hards[judge] = hardOf(judge, part);
        }
        return hards;
    }

    private Integer toldOf(int plot, int part, int[] hards) {
        long sum = 0;
        int judges = 0;
        for (int judge = 0; judge < 4; judge++) {
            Integer mark = marks.get(List.of(judge, plot, part));
            if (mark != null) {
                sum += 100 * mark + hards[judge];
                judges++;
            }
        }
        return judges == 0 ? null : (Integer) floor(sum, judges);
    }

    private int toldChecked(int plot, int part) {
        plotThere(plot);
        argument(part, 0, 4);
        Integer told = toldOf(plot, part, hardsOf(part));
        return told == null ? -100000 : told;
    }

    private int[] sums() {
        int[] sums = new int[ploughmen.size()];
        for (int part = 0; part < 5; part++) {
            int[] hards = hardsOf(part);
            for (int plot = 0; plot < sums.length; plot++) {
                Integer told = toldOf(plot, part, hards);
                sums[plot] += told == null ? 0 : told;
            }
        }
        return sums;
    }

    private static int groundOf(int[] sums, int plot) {
        if (sums.length == 1) {
            return 0;
        }
        long near = 0;
        int neighbours = 0;
        long all = 0;
        for (int other = 0; other < sums.length; other++) {
            all += sums[other];
            if (Math.abs(other - plot) == 1) {
                near += sums[other];
                neighbours++;
            }
        }
        return floor(floor(near, neighbours) - floor(all, sums.length), 4);
    }

    private int finalOf(int[] sums, int plot) {
        int begun = 0;
        for (int minute = limit; minute < minutes[plot]; minute += 5) {
            begun++;
        }
        return sums[plot] - groundOf(sums, plot) - 50 * begun - off[plot];
    }

    private int tellAbout(int plot, int what) {
        plotThere(plot);
        argument(what, 0, 6);
        if (what == 1) {
            int untold = 0;
            for (int part = 0; part < 5; part++) {
                untold += toldChecked(plot, part) == -100000 ? 1 : 0;
            }
            return untold;
        }
        return switch (what) {
            case 0 -> sums()[plot];
            case 2 -> groundOf(sums(), plot);
            case 3 -> minutes[plot];
            case 4 -> off[plot];
            case 5 -> finalOf(sums(), plot);
            default -> places.indexOf(plot);
        };
    }

    private int putMinutes(int plot, int now) {
        plotThere(plot);
        argument(now, 0, 600);
        int before = minutes[plot];
        minutes[plot] = now;
        return before;
    }

    private int putLimit(int now) {
        argument(now, 0, 600);
        int before = limit;
        limit = now;
        return before;
    }

    private int feedTape(int[] numbers) {
        if (tape.length() + 20 > 100) {
            return -1;
        }
        for (int number : numbers) {
            for (int shift = 24; shift >= 0; shift -= 8) {
                tape.append((char) (number >>> shift & 255));
            }
        }
        return tape.length();
    }

    private int readRule(int n) {
        argument(n, 0, tape.length());
        String text = tape.substring(0, n);
        tape.setLength(0);
        List<Key> read = new ArrayList<>();
        int place = placeOf(tokens(text), read);
        if (place >= 0) {
            return -2 - place;
        }
        keys = read;
        return read.size();
    }

    /** Kinds: w a WORD, d a digit, c a comma, x another byte, e the end. */
    private static List<Token> tokens(String text) {
        List<Token> tokens = new ArrayList<>();
        int at = 0;
        while (at < text.length()) {
            int next = at + 1;
            char sign = text.charAt(at);
            if (sign >= 'a' && sign <= 'z') {
                while (next < text.length() && text.charAt(next) >= 'a' && text.charAt(next) <= 'z') {
                    next++;
                }
                tokens.add(new Token('w', at, text.substring(at, next)));
            } else if (sign != ' ') {
                char kind = sign >= '0' && sign <= '9' ? 'd' : sign == ',' ? 'c' : 'x';
                tokens.add(new Token(kind, at, text.substring(at, next)));
            }
            at = next;
        }
        tokens.add(new Token('e', text.length(), ""));
        return tokens;
    }

    /** The PLACE, or -1 for a RULE. States: 0 a KEY is due, 1 its digit, 2 its way, 3 what is behind it. */
    private static int placeOf(List<Token> tokens, List<Key> read) {
        int state = 0;
        String word = "";
        int part = 0;
        for (Token token : tokens) {
            String text = token.text();
            if (state == 0 && List.of("final", "sum", "minutes", "age", "part").contains(text)) {
                word = text;
                state = text.equals("part") ? 1 : 2;
            } else if (state == 1 && token.kind() == 'd' && text.compareTo("4") <= 0) {
                part = Integer.parseInt(text);
                state = 2;
            } else if (state == 2 && (text.equals("up") || text.equals("down"))) {
                read.add(new Key(word, part, text.equals("up")));
                state = 3;
            } else if (state == 3 && token.kind() == 'c' && read.size() < 6) {
                state = 0;
            } else {
                return state == 3 && token.kind() == 'e' ? -1 : token.place();
            }
        }
        return -1;
    }

    private List<Integer> ranksOf(int kind) {
        int[] sums = sums();
        int[][] hards = new int[5][];
        for (int part = 0; part < 5; part++) {
            hards[part] = hardsOf(part);
        }
        Comparator<Integer> order = (a, b) -> 0;
        for (Key key : keys) {
            Comparator<Integer> byKey = Comparator.comparing((Integer p) -> valueOf(key, p, sums, hards));
            order = order.thenComparing(key.up() ? byKey : byKey.reversed());
        }
        List<Integer> ranks = new ArrayList<>();
        for (int p = 0; p < ploughmen.size(); p++) {
            if (ploughmen.get(p).kind() == kind) {
                ranks.add(p);
            }
        }
        ranks.sort(order.thenComparing(Comparator.naturalOrder()));
        return ranks;
    }

    private int valueOf(Key key, int ploughman, int[] sums, int[][] hards) {
        int plot = places.get(ploughman);
        Integer told = toldOf(plot, key.part(), hards[key.part()]);
        return switch (key.word()) {
            case "final" -> finalOf(sums, plot);
            case "sum" -> sums[plot];
            case "minutes" -> minutes[plot];
            case "age" -> ploughmen.get(ploughman).age();
            default -> told == null ? Integer.MIN_VALUE : told;
        };
    }

    private int rankAt(int kind, int k) {
        argument(kind, 0, 2);
        if (!drawn) {
            return -1;
        }
        List<Integer> ranks = ranksOf(kind);
        return k < 0 || k >= ranks.size() ? -1 : ranks.get(k);
    }

    private int takeOff(int plot, int much) {
        plotThere(plot);
        argument(much, 1, 1000);
        off[plot] += much;
        return off[plot];
    }

    private int writeBook() {
        if (!drawn) {
            return -1;
        }
        int[] prizes = {10, 6, 4, 3, 2, 1};
        int[] points = new int[10];
        for (int kind = 0; kind < 3; kind++) {
            List<Integer> ranks = ranksOf(kind);
            for (int k = 0; k < 6 && k < ranks.size(); k++) {
                points[ploughmen.get(ranks.get(k)).club()] += prizes[k];
            }
        }
        List<Line> came = new ArrayList<>();
        for (int club = 0; club < 10; club++) {
            int difference = points[club] - pointsOn(club, Integer.MAX_VALUE);
            if (difference != 0) {
                came.add(new Line(day, club, difference));
            }
        }
        if (book.size() + came.size() > 600) {
            return -2;
        }
        book.addAll(came);
        return came.size();
    }

    private int pointsOn(int club, int onDay) {
        argument(club, 0, 9);
        return book.stream().filter(line -> line.club() == club && line.day() <= onDay)
            .mapToInt(Line::difference).sum();
    }

    private int lineAt(int k, int what) {
        if (k < 0 || k >= book.size()) {
            throw new IndexOutOfBoundsException();
        }
        argument(what, 0, 2);
        Line line = book.get(k);
        return what == 0 ? line.day() : what == 1 ? line.club() : line.difference();
    }

    private int goOn(int days) {
        argument(days, 0, 1000);
        day += days;
        return day;
    }

    private int countOf(int what) {
        return switch (what) {
            case 0 -> ploughmen.size();
            case 1 -> drawn ? ploughmen.size() : 0;
            case 2 -> marks.size();
            case 3 -> keys.size();
            case 4 -> book.size();
            case 5 -> day;
            case 6 -> noise.size();
            case 7 -> tape.length();
            default -> -1;
        };
    }
}
