/** Makes a call of the face by its name, so that tests can hold calls as texts. */
final class Calls {
    private Calls() {
    }

    static int ask(PloughingMatch match, String name, int... a) {
        return switch (name) {
            case "ploughman" -> match.ploughman(a[0], a[1], a[2]);
            case "noise" -> match.noise(a[0]);
            case "draw" -> match.draw();
            case "plot" -> match.plot(a[0]);
            case "mark" -> match.mark(a[0], a[1], a[2], a[3]);
            case "hard" -> match.hard(a[0], a[1]);
            case "told" -> match.told(a[0], a[1]);
            case "about" -> match.about(a[0], a[1]);
            case "minutes" -> match.minutes(a[0], a[1]);
            case "limit" -> match.limit(a[0]);
            case "feed" -> match.feed(a[0], a[1], a[2], a[3], a[4]);
            case "rule" -> match.rule(a[0]);
            case "rank" -> match.rank(a[0], a[1]);
            case "protest" -> match.protest(a[0], a[1]);
            case "publish" -> match.publish();
            case "points" -> match.points(a[0], a[1]);
            case "line" -> match.line(a[0], a[1]);
            case "wait" -> match.wait(a[0]);
            case "count" -> match.count(a[0]);
            default -> throw new UnsupportedOperationException("the face has no " + name);
        };
    }

    /** The answer as a text, or the name of the exception that was thrown. */
    static String answer(PloughingMatch match, String name, String list) {
        try {
            return String.valueOf(ask(match, name, numbers(list)));
        } catch (RuntimeException thrown) {
            return thrown.getClass().getSimpleName();
        }
    }

    /** The numbers of a list such as "0, -1, 0x75700000, min, max". */
    static int[] numbers(String list) {
        if (list.isEmpty()) {
            return new int[0];
        }
        String[] words = list.split(", ");
        int[] numbers = new int[words.length];
        for (int k = 0; k < words.length; k++) {
            numbers[k] = switch (words[k]) {
                case "min" -> Integer.MIN_VALUE;
                case "max" -> Integer.MAX_VALUE;
                default -> (int) (long) Long.decode(words[k]);
            };
        }
        return numbers;
    }
}
