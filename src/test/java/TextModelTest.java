import java.util.Random;
import java.util.Set;
import java.util.TreeSet;
import java.util.regex.Matcher;
import java.util.regex.Pattern;

/**
 * Promises 2 to 4: thousands of texts that went wrong by chance (fixed seeds), their places compared
 * with a model: a pattern tells with which byte a text can't follow the grammar any more, and numbers
 * that are not so are looked for in the rows by themselves; the first of all these is the place.
 */
public final class TextModelTest {
    private static final int TEXTS = 40_000;
    private static final String SIGNS = "ea@>+~p!f;<w  00112345699x?\t";

    private static final String N = "(0|[1-9][0-9]{0,3})";
    private static final Pattern SCRIPT = Pattern.compile((" *(?:(?:"
        + "e *N *(?:@ *N|> *N *\\+ *N *~ *N) *p *N *(?:! *)?(?:f *N *)?;"
        + "|a *N *e *N *> *N *< *N *w *N *;"
        + ") *)*").replace("N", N));
    private static final Pattern EVENT = Pattern.compile(
        "e *N(?: *(?:@ *N|> *N(?: *\\+ *N(?: *~ *N)?)?)(?: *p *N(?: *!)?(?: *f *N)?)?)?".replace("N", N));
    private static final Pattern AIM = Pattern.compile(
        "a *N(?: *e *N(?: *> *N(?: *< *N(?: *w *N)?)?)?)?".replace("N", N));
    private static final int[][] EVENT_BOUNDS = {{1, 40}, {0, 9999}, {0, 19}, {0, 999}, {0, 9999}, {0, 9}, {1, 9}};
    private static final int[][] AIM_BOUNDS = {{1, 20}, {1, 40}, {0, 19}, {1, 999}, {1, 9}};

    public static void main(String[] args) {
        int right = 0;
        for (int seed = 0; seed < TEXTS; seed++) {
            Random random = new Random(seed);
            String text = spoilt(rows(random), random);
            int place = place(text);
            if (place < 0) {
                right++;
                Check.right(text, text.length() - text.replace("p", "").length());
            } else {
                Check.wrong(text, place);
            }
        }
        if (right < TEXTS / 20 || right > TEXTS / 2) {
            Check.report("of " + TEXTS + " texts " + right + " were right: too few or too many to tell much");
        }
        Check.end();
    }

    private static int between(Random random, int... bounds) {
        int kind = random.nextInt(12);
        int inner = bounds[0] + random.nextInt(Math.min(bounds[1] - bounds[0] + 1, 30));
        return kind == 0 ? bounds[0] : kind == 1 ? bounds[1] : kind == 2 ? bounds[1] + random.nextInt(2) : inner;
    }

    private static String blank(Random random) {
        return random.nextInt(25) == 0 ? " " : "";
    }

    private static String rows(Random random) {
        StringBuilder text = new StringBuilder();
        for (int left = 1 + random.nextInt(5); left > 0; left--) {
            text.append(random.nextInt(5) < 3 ? event(random) : aim(random)).append(blank(random));
        }
        return text.toString();
    }

    private static String event(Random random) {
        int[][] b = EVENT_BOUNDS;
        StringBuilder row = new StringBuilder("e").append(blank(random)).append(between(random, b[0]));
        if (random.nextBoolean()) {
            row.append('@').append(blank(random)).append(between(random, b[1]));
        } else {
            row.append('>').append(between(random, b[2])).append(blank(random)).append('+');
            row.append(between(random, b[3])).append('~').append(blank(random)).append(between(random, b[4]));
        }
        row.append(blank(random)).append('p').append(between(random, b[5])).append(random.nextBoolean() ? "!" : "");
        return row.append(random.nextBoolean() ? "f" + between(random, b[6]) : "").append(';').toString();
    }

    private static String aim(Random random) {
        int[][] b = AIM_BOUNDS;
        StringBuilder row = new StringBuilder("a").append(between(random, b[0])).append(blank(random));
        row.append('e').append(between(random, b[1])).append('>').append(between(random, b[2]));
        row.append('<').append(blank(random)).append(between(random, b[3])).append('w');
        return row.append(between(random, b[4])).append(blank(random)).append(';').toString();
    }

    /** A text with up to two signs put in, taken out, written over, or its end cut off. */
    private static String spoilt(String text, Random random) {
        StringBuilder changed = new StringBuilder(text);
        for (int left = random.nextInt(3); left > 0 && changed.length() > 1; left--) {
            int at = random.nextInt(changed.length());
            char sign = SIGNS.charAt(random.nextInt(SIGNS.length()));
            switch (random.nextInt(7)) {
                case 0: changed.deleteCharAt(at); break;
                case 1: changed.setLength(at); break;
                case 2: case 3: changed.insert(at, sign); break;
                default: changed.setCharAt(at, sign); break;
            }
        }
        return changed.toString();
    }

    private static int place(String text) {
        int byGrammar = placeByGrammar(text);
        int byNumbers = placeByNumbers(text);
        return byGrammar < 0 || byNumbers < 0 ? Math.max(byGrammar, byNumbers) : Math.min(byGrammar, byNumbers);
    }

    private static int placeByGrammar(String text) {
        for (int length = 1; length <= text.length(); length++) {
            Matcher matcher = SCRIPT.matcher(text.substring(0, length));
            if (!matcher.matches() && !matcher.hitEnd()) {
                return length - 1;
            }
        }
        return SCRIPT.matcher(text).matches() ? -1 : text.length();
    }

    private static int placeByNumbers(String text) {
        Set<Integer> events = new TreeSet<>();
        Set<Integer> aims = new TreeSet<>();
        int at = 0;
        for (int rows = 0; rows < text.length() && at < text.length(); rows++) {
            while (at < text.length() && text.charAt(at) == ' ') {
                at++;
            }
            Matcher event = EVENT.matcher(text).region(at, text.length());
            Matcher aim = AIM.matcher(text).region(at, text.length());
            int place = -1;
            if (event.lookingAt()) {
                place = placeInRow(event, EVENT_BOUNDS, events, null);
            } else if (aim.lookingAt()) {
                place = placeInRow(aim, AIM_BOUNDS, aims, events);
            }
            if (place >= 0) {
                return place;
            }
            int end = text.indexOf(';', at);
            at = end < 0 ? text.length() : end + 1;
        }
        return -1;
    }

    private static int placeInRow(Matcher row, int[][] bounds, Set<Integer> told, Set<Integer> ahead) {
        for (int i = 0; i < bounds.length; i++) {
            if (row.group(i + 1) == null) {
                continue;
            }
            int number = Integer.parseInt(row.group(i + 1));
            boolean inRange = number >= bounds[i][0] && number <= bounds[i][1];
            boolean isNew = i != 0 || told.add(number);
            boolean isKnown = i != 1 || ahead == null || ahead.contains(number);
            if (!inRange || !isNew || !isKnown) {
                return row.end(i + 1) - 1;
            }
        }
        return -1;
    }
}
