/**
 * The document's sentences on scripts, one test for each that names a bound: the last that is taken
 * and the first that is refused. The sentence stands above its test.
 */
public final class TextBoundsTest {
    private static final String[] EVENT = {"e", "40", ">", "19", "+", "999", "~", "9999", "p", "9", "!", "f", "9", ";"};
    private static final String[] AIM = {"a", "20", "e", "40", ">", "19", "<", "999", "w", "9", ";"};

    /** Event 4 is told so that an aim's "e4" is right as far as it goes, with "e40" to come. */
    private static final String LONGEST = "e4@1p0;" + String.join("", EVENT) + String.join("", AIM);

    public static void main(String[] args) {
        emptyScript();
        fullScript();
        placesInAFullScript();
        rowsEndWithASemicolon();
        blanksBetweenSigns();
        blanksWithinNumbers();
        blanksAlone();
        eventNumbers();
        seconds();
        eventActs();
        delays();
        latestSeconds();
        parts();
        secretOrNot();
        faults();
        aimNumbers();
        eventNumbersOfAims();
        actsOfAims();
        secondsOfAims();
        weights();
        numberOfDigits();
        zeroInFront();
        rangeAheadOfADigitTooMany();
        wrongAtTheFirstByte();
        wrongAtItsLength();
        eventsToldTwice();
        aimsToldTwice();
        aimsOfEventsNotToldAhead();
        signsOfEachSize();
        signOutsideOfItsRange();
        signBeyondTheTape();
        readUsesTheTapeUp();
        readThatThrowsUsesTheTapeUp();
        placeOfTheLatestText();
        Check.end();
    }

    // A new object: "An empty script; no drills."
    private static void emptyScript() {
        DrillRows x = new DrillRows();
        Check.refused("begin by the empty script", Check.STATE, x::begin);
        Check.refused("drill 0", Check.UNKNOWN, () -> x.drill(0, 0));
        Check.same("a tape without a byte", x.read(), 0);
        Check.same("is right", x.place(), -1);
        Check.refused("begin by a text without rows", Check.STATE, x::begin);
        Check.refused("no drill began", Check.UNKNOWN, () -> x.drill(0, 0));
    }

    // "A SCRIPT has at most 300 bytes": 38 events are all that find room there.
    private static void fullScript() {
        StringBuilder text = new StringBuilder();
        for (int number = 40; number >= 3; number--) {
            text.append('e').append(number).append("@0p0;");
        }
        text.insert(0, " ".repeat(300 - text.length()));
        Check.same("bytes", text.length(), 300);
        DrillRows x = new DrillRows();
        Check.same("events of 300 bytes", Check.read(x, text.toString()), 38);
        x.begin();
        Check.same("all begin", x.drill(0, 4), 38);
        for (int i = 0; i < 38; i++) {
            Check.same("seen " + i, x.seen(0, 5, i), i + 3);
        }
        Check.same("no more are seen", x.seen(0, 5, 38), -1);
        Check.refused("event 2", Check.UNKNOWN, () -> x.event(0, 2, 0));
    }

    // "A text is WRONG at .. (its length when something is missing)", with the last byte and the length 300.
    private static void placesInAFullScript() {
        Check.right(" ".repeat(300), 0);
        Check.wrong(" ".repeat(299) + "x", 299);
        Check.wrong(" ".repeat(294) + "e1@0p0", 300);
        Check.wrong("e1@0p0" + " ".repeat(294), 300);
        Check.wrong("x" + " ".repeat(299), 0);
    }

    // "ROWS, each ended by a semicolon"
    private static void rowsEndWithASemicolon() {
        Check.right("e1@0p0;", 1);
        Check.wrong("e1@0p0", 6);
        Check.right("e1@0p0;e2@0p0;", 2);
        Check.wrong("e1@0p0e2@0p0;", 6);
        Check.wrong("e1@0p0;e2@0p0", 13);
        Check.right("e1@0p0;a1e1>0<1w1;", 1);
        Check.wrong("e1@0p0;a1e1>0<1w1", 17);
        Check.wrong("e1@0p0;a1e1>0<1w1a2e1>0<1w1;", 17);
        Check.wrong(";", 0);
        Check.wrong("e1@0p0;;", 7);
    }

    // "blanks may stand between signs"
    private static void blanksBetweenSigns() {
        for (int gap = 0; gap <= EVENT.length; gap++) {
            Check.right("e4@1p0;" + withBlank(EVENT, gap, " ") + String.join("", AIM), 2);
            Check.right("e4@1p0;" + withBlank(EVENT, gap, "    ") + String.join("", AIM), 2);
        }
        for (int gap = 0; gap <= AIM.length; gap++) {
            Check.right("e4@1p0;" + String.join("", EVENT) + withBlank(AIM, gap, " "), 2);
        }
        Check.right("e 1 @ 2 p 3 ;", 1);
    }

    private static String withBlank(String[] signs, int gap, String blank) {
        StringBuilder text = new StringBuilder();
        for (int i = 0; i < signs.length; i++) {
            text.append(i == gap ? blank : "").append(signs[i]);
        }
        return text.append(gap == signs.length ? blank : "").toString();
    }

    // "blanks may stand .. not within numbers": what follows the blank is one digit too many for the row.
    private static void blanksWithinNumbers() {
        int tried = 0;
        for (int at = 1; at < LONGEST.length(); at++) {
            if (isDigit(LONGEST.charAt(at - 1)) && isDigit(LONGEST.charAt(at))) {
                // Without event 4, which "e4 0" would tell twice; an aim's "e4 0" is then of no event told.
                String text = LONGEST.substring(0, at).replace("e4@", "e3@") + " " + LONGEST.substring(at);
                boolean eventOfAim = LONGEST.startsWith("e4", at - 2) && at > LONGEST.indexOf('a');
                Check.wrong(text, eventOfAim ? at - 1 : at + 1);
                tried++;
            }
        }
        Check.same("inner places of numbers", tried, 1 + 1 + 2 + 3 + 1 + 1 + 1 + 2);
        Check.wrong("e4@1p0;a1e4 0>1<1w1;", 12);
    }

    private static boolean isDigit(char sign) {
        return sign >= '0' && sign <= '9';
    }

    // "blanks": byte 32 alone is one.
    private static void blanksAlone() {
        for (int sign = 0; sign < 256; sign++) {
            if (sign == ' ') {
                Check.right("e1@0p0;" + (char) sign, 1);
                Check.right("e" + (char) sign + "1@0p0;", 1);
            } else {
                Check.wrong("e1@0p0;" + (char) sign, sign == 'e' || sign == 'a' ? 8 : 7);
                if (!isDigit((char) sign)) {
                    Check.wrong("e" + (char) sign + "1@0p0;", 1);
                }
            }
        }
    }

    /** A number's bounds in its row: both are taken, a number next to them is wrong, and so is none. */
    private static void bounds(String ahead, int low, int high, String behind) {
        int events = ahead.startsWith("e4@") ? 2 : 1;
        Check.right(ahead + low + behind, events);
        Check.right(ahead + high + behind, events);
        int at = ahead.length();
        if (low > 0) {
            Check.wrong(ahead + (low - 1) + behind, at);
            Check.wrong(ahead + (low - 1), at);
            Check.wrong(ahead + "01" + behind, at);
        } else {
            Check.wrong(ahead + "00" + behind, at + 1);
            Check.wrong(ahead + "01" + behind, at + 1);
        }
        int last = at + Integer.toString(high + 1).length() - 1;
        Check.wrong(ahead + (high + 1) + behind, last);
        Check.wrong(ahead + (high + 1), last);
        Check.wrong(ahead + "-1" + behind, at);
        Check.wrong(ahead + behind, at);
        Check.wrong(ahead, at);
    }

    // "e, its NUMBER (1 .. 40)"
    private static void eventNumbers() {
        bounds("e", 1, 40, "@0p0;");
        bounds("e", 1, 40, ">0+0~0p0;");
        DrillRows x = Check.drilling("e1@0p3;e40@0p5;");
        Check.same("event 1", x.event(0, 1, 1), 3);
        Check.same("event 40", x.event(0, 40, 1), 5);
        Check.refused("event 0", Check.UNKNOWN, () -> x.event(0, 0, 1));
        Check.refused("event 41", Check.UNKNOWN, () -> x.event(0, 41, 1));
    }

    // "@ and a SECOND (0 .. 9,999; it begins then, counted from the drill's begin)"
    private static void seconds() {
        bounds("e1@", 0, 9999, "p0;");
        DrillRows x = Check.with("e1@0p0;e2@9999p0;e3@1p0;");
        x.tick(1);
        x.begin();
        Check.same("second 0", x.event(0, 1, 0), 0);
        Check.same("second 1", x.tick(1), 1);
        x.tick(4999);
        Check.same("9,998", x.tick(4998), 0);
        Check.same("9,999", x.tick(1), 1);
        Check.same("from the drill's begin", x.event(0, 2, 0), 9999);
    }

    // "> and an ACT (0 .. 19)"
    private static void eventActs() {
        bounds("e1>", 0, 19, "+0~0p0;");
        DrillRows x = Check.drilling("e1>0+0~9999p0;e2>19+0~9999p0;");
        Check.same("act 0", x.act(0, 0), 1);
        Check.same("begins event 1", x.event(0, 1, 0), 0);
        Check.same("act 19", x.act(0, 19), 1);
        Check.same("begins event 2", x.event(0, 2, 0), 0);
    }

    // "a DELAY (0 .. 999)"
    private static void delays() {
        bounds("e1>0+", 0, 999, "~0p0;");
        DrillRows x = Check.drilling("e1>0+0~9999p0;e2>0+1~9999p0;e3>0+999~9999p0;");
        Check.same("delay 0 at once", x.act(0, 0), 1);
        Check.same("delay 1", x.tick(1), 1);
        Check.same("998 behind", x.tick(997), 0);
        Check.same("999 behind", x.tick(1), 1);
        Check.same("when", x.event(0, 3, 0), 999);
    }

    // "~ and a LATEST second (0 .. 9,999) .. at that second when it has not begun by then"
    private static void latestSeconds() {
        bounds("e1>0+0~", 0, 9999, "p0;");
        DrillRows x = Check.drilling("e1>0+999~0p0;e2>0+999~9999p0;e3>0+999~1p0;");
        Check.same("latest 0", x.event(0, 1, 0), 0);
        Check.same("latest 1", x.tick(1), 1);
        x.tick(4999);
        Check.same("9,998", x.tick(4998), 0);
        Check.same("latest 9,999", x.tick(1), 1);
        Check.same("when", x.event(0, 2, 0), 9999);
    }

    // "then p and its PART (0 .. 9)"
    private static void parts() {
        bounds("e1@0p", 0, 9, ";");
        bounds("e1@0p", 0, 9, "!f1;");
        DrillRows x = Check.drilling("e1@0p0;e2@0p9;");
        Check.same("part 0", x.event(0, 1, 1), 0);
        Check.same("part 9", x.event(0, 2, 1), 9);
    }

    // "perhaps ! (SECRET)"
    private static void secretOrNot() {
        Check.right("e1@0p0;", 1);
        Check.right("e1@0p0!;", 1);
        Check.wrong("e1@0p0!!;", 7);
        Check.wrong("e1@0p0f1!;", 8);
        DrillRows x = Check.drilling("e1@0p0;e2@0p0!;");
        Check.same("not secret", x.event(0, 1, 2), 0);
        Check.same("secret", x.event(0, 2, 2), 1);
    }

    // "perhaps f and a FAULT (1 .. 9)"; "An event without f has no fault."
    private static void faults() {
        bounds("e1@0p0f", 1, 9, ";");
        bounds("e1@0p0!f", 1, 9, ";");
        Check.wrong("e1@0p0f1f2;", 8);
        DrillRows x = Check.drilling("e1@0p0f1;e2@0p0f9;e3@0p0;e4@0p0!;");
        Check.same("fault 1", x.event(0, 1, 3), 1);
        Check.same("fault 9", x.event(0, 2, 3), 9);
        Check.same("none", x.event(0, 3, 3), 0);
        Check.same("none of a secret one", x.event(0, 4, 3), 0);
        DrillRows none = Check.drilling("e3@0p0;");
        for (int fault = 1; fault <= 9; fault++) {
            Check.same("no fault is on", none.fault(0, fault) ? 1 : 0, 0);
        }
    }

    // "a, its NUMBER (1 .. 20)"
    private static void aimNumbers() {
        bounds("e1@0p0;a", 1, 20, "e1>0<1w1;");
        DrillRows x = Check.drilling("e1@0p0;a1e1>0<1w1;a20e1>1<1w1;");
        x.act(0, 1);
        Check.same("aim 1", x.aim(0, 1), 0);
        Check.same("aim 20", x.aim(0, 20), 1);
        Check.refused("aim 0", Check.UNKNOWN, () -> x.aim(0, 0));
        Check.refused("aim 21", Check.UNKNOWN, () -> x.aim(0, 21));
    }

    // "e and the NUMBER of an event"
    private static void eventNumbersOfAims() {
        bounds("e1@0p0;a1e", 1, 1, ">0<1w1;");
        bounds("e4@0p0;e40@0p0;a1e", 4, 40, ">0<1w1;");
        Check.wrong("e1@0p0;a1e0>0<1w1;", 10);
        Check.wrong("e1@0p0;a1e41>0<1w1;", 11);
    }

    // "an ACT" of an aim
    private static void actsOfAims() {
        bounds("e1@0p0;a1e1>", 0, 19, "<1w1;");
        DrillRows x = Check.drilling("e1@0p0;a1e1>0<1w1;a2e1>19<1w1;");
        x.act(0, 0);
        Check.same("met by act 0", x.aim(0, 1), 1);
        Check.same("not by it", x.aim(0, 2), 0);
        x.act(0, 19);
        Check.same("met by act 19", x.aim(0, 2), 1);
    }

    // "SECONDS (1 .. 999)"
    private static void secondsOfAims() {
        bounds("e1@0p0;a1e1>0<", 1, 999, "w1;");
        DrillRows x = Check.drilling("e1@0p0;a1e1>0<1w1;a2e1>0<999w1;a3e1>1<999w1;");
        x.tick(1);
        Check.same("within 1 second", x.aim(0, 1), 0);
        x.tick(1);
        Check.same("1 second has gone by", x.aim(0, 1), 2);
        x.tick(997);
        Check.same("within 999 seconds", x.aim(0, 3), 0);
        x.act(0, 0);
        Check.same("met within 999 seconds", x.aim(0, 2), 1);
        x.tick(1);
        Check.same("999 seconds have gone by", x.aim(0, 3), 2);
    }

    // "w and a WEIGHT (1 .. 9)"
    private static void weights() {
        bounds("e1@0p0;a1e1>0<1w", 1, 9, ";");
        DrillRows x = Check.drilling("e1@0p0;a1e1>0<1w1;a2e1>1<1w9;");
        x.act(0, 0);
        Check.same("1 of 10", x.score(0, 0) * 100 + x.score(0, 1), 110);
    }

    // "NUMBERS have one to four digits"
    private static void numberOfDigits() {
        Check.wrong("e1@p0;", 3);
        Check.right("e1@1p0;", 1);
        Check.right("e1@12p0;", 1);
        Check.right("e1@123p0;", 1);
        Check.right("e1@1234p0;", 1);
        Check.wrong("e1@12345p0;", 7);
        Check.wrong("e1@123456p0;", 7);
        Check.wrong("e1>0+0~12345p0;", 11);
    }

    // "without 0 in front"; "a 0 that may not be at itself"
    private static void zeroInFront() {
        Check.right("e1@0p0;", 1);
        Check.wrong("e1@00p0;", 4);
        Check.wrong("e1@01p0;", 4);
        Check.wrong("e1@0000p0;", 4);
        Check.wrong("e1@00001p0;", 4);
        Check.wrong("e0", 1);
        Check.wrong("e01@0p0;", 1);
        Check.wrong("e00001@0p0;", 1);
        Check.wrong("e1@0p0f01;", 7);
        Check.right("e10@100p0;", 1);
    }

    // "numbers that are not so at their last byte (.. the range ahead of a digit too many)"
    private static void rangeAheadOfADigitTooMany() {
        Check.wrong("e41@0p0;", 2);
        Check.wrong("e99@0p0;", 2);
        Check.wrong("e1@0p1234;", 8);
        Check.wrong("e1@0p12345;", 8);
        Check.wrong("e1>0+1000~0p0;", 8);
        Check.wrong("e1>0+10000~0p0;", 8);
        Check.wrong("e1@10000p0;", 7);
    }

    // "A text is WRONG at the first byte with which it can't be right, whatever follows"
    private static void wrongAtTheFirstByte() {
        String text = "e5>19+999~9999p9!f9;e1@5p0;a20e5>19<999w9;";
        Check.right(text, 2);
        for (int at = 0; at < text.length(); at++) {
            String ahead = text.substring(0, at);
            String behind = text.substring(at + 1);
            Check.wrong(ahead + "?" + behind, at);
            Check.wrong(ahead + "?", at);
            Check.wrong(ahead + "?x", at);
            Check.wrong(ahead + (char) (text.charAt(at) | 0x80) + behind, at);
        }
    }

    // "(its length when something is missing)"
    private static void wrongAtItsLength() {
        for (int length = 0; length <= LONGEST.length(); length++) {
            String text = LONGEST.substring(0, length);
            boolean fourTwice = text.endsWith(";e4");
            if (text.isEmpty() || text.endsWith(";")) {
                Check.right(text + "  ", text.length() - text.replace("p", "").length());
            } else {
                Check.wrong(text, fourTwice ? length - 1 : length);
                Check.wrong(text + "  ", fourTwice ? length - 1 : length + 2);
            }
        }
    }

    // "an event's .. number told twice likewise": at its last byte
    private static void eventsToldTwice() {
        Check.wrong("e1@0p0;e1@0p0;", 8);
        Check.wrong("e1@0p0;e1", 8);
        Check.wrong("e1@0p0;e 1 ?", 9);
        Check.wrong("e40@0p0;e3@0p0;e40@0p0;", 17);
        Check.wrong("e1@0p0;e2@0p0;e1>0+0~0p0;", 15);
        Check.right("e1@0p0;e10@0p0;e11@0p0;", 3);
        Check.right("e1@0p0;a1e1>0<1w1;", 1);
        DrillRows x = Check.with("e1@0p0;");
        Check.same("told once in each script", Check.read(x, "e1@0p0;"), 1);
        Check.sign(x, "e2@0p0;e3");
        Check.refused("a wrong text", Check.STATE, x::read);
        Check.same("a wrong text tells nothing", Check.read(x, "e2@0p0;e3@0p0;"), 2);
    }

    // "or an aim's number told twice likewise"
    private static void aimsToldTwice() {
        String event = "e1@0p0;";
        Check.wrong(event + "a1e1>0<1w1;a1e1>0<1w1;", 19);
        Check.wrong(event + "a1e1>0<1w1;a1", 19);
        Check.wrong(event + "a20e1>0<1w1;a20e1>0<1w1;", 21);
        Check.wrong(event + "a20e1>0<1w1;a 20 e1>0<1w1;", 22);
        Check.right(event + "a1e1>0<1w1;a10e1>0<1w1;a11e1>0<1w1;", 1);
        DrillRows x = Check.with(event + "a1e1>0<1w1;");
        Check.same("told once in each script", Check.read(x, event + "a1e1>0<1w1;"), 1);
        Check.sign(x, event + "a2e1>0<1w1;x");
        Check.refused("a wrong text", Check.STATE, x::read);
        Check.same("a wrong text tells nothing", Check.read(x, event + "a2e1>0<1w1;"), 1);
    }

    // "an aim of an event that is not told ahead of it at the last byte of that event's number"
    private static void aimsOfEventsNotToldAhead() {
        Check.wrong("a1e1>0<1w1;", 3);
        Check.wrong("a1e1>0<1w1;e1@0p0;", 3);
        Check.wrong("a1e40>0<1w1;e40@0p0;", 4);
        Check.wrong("e1@0p0;a1e 10 >0<1w1;", 12);
        Check.wrong("e10@0p0;a1e1", 11);
        Check.right("e2@0p0;e1@0p0;a1e1>0<1w1;a2e2>0<1w1;", 2);
        DrillRows x = Check.drilling("e1@0p0;");
        Check.sign(x, "e2@0p0;a1e1>0<1w1;");
        Check.refused("told in an earlier script alone", Check.STATE, x::read);
        Check.same("its place", x.place(), 10);
    }

    // sign: "n bytes (1 .. 8; the lowest n, the highest of these first) more on the tape: how many"
    private static void signsOfEachSize() {
        String text = "e1@0p7;e2@0p8;";
        for (int n = 1; n <= 8; n++) {
            DrillRows x = new DrillRows();
            for (int from = 0; from < text.length(); from += n) {
                int to = Math.min(text.length(), from + n);
                // Bytes above the lowest n are none of the text's, and must not come to the tape.
                long bytes = 0x3F3F3F3F3F3F3F3FL;
                for (int i = from; i < to; i++) {
                    bytes = bytes << 8 | text.charAt(i);
                }
                Check.same("sign of " + (to - from), x.sign(bytes, to - from), to);
            }
            Check.same("events by signs of " + n, x.read(), 2);
            x.begin();
            Check.same("parts by signs of " + n, x.event(0, 1, 1) * 10 + x.event(0, 2, 1), 78);
        }
        DrillRows high = new DrillRows();
        Check.same("eight bytes with the highest bit", high.sign(0xE520202020202020L, 8), 8);
        Check.refused("a byte of 229 is no e", Check.STATE, high::read);
        Check.same("its place", high.place(), 0);
    }

    // sign: "IndexOutOfBoundsException: n is not so"
    private static void signOutsideOfItsRange() {
        for (int n : new int[] {0, 9, -1, -8, 256, 257, Integer.MIN_VALUE, Integer.MAX_VALUE}) {
            DrillRows x = new DrillRows();
            x.sign('e', 1);
            Check.refused("sign of " + n, Check.OUTSIDE, () -> x.sign(0x20, n));
            Check.same("the tape behind sign of " + n, x.sign(0x314030703BL, 5), 6);
            Check.refused("its text", Check.STATE, x::read);
            Check.same("its text's place", x.place(), 5);
        }
    }

    // sign: "UnsupportedOperationException: there would be more than 300"
    private static void signBeyondTheTape() {
        for (int n = 1; n <= 8; n++) {
            int size = n;
            DrillRows x = new DrillRows();
            Check.sign(x, " ".repeat(301 - n));
            Check.refused("301 by " + n, Check.ROOM, () -> x.sign(0x7878787878787878L, size));
            if (n > 1) {
                Check.same("300 by " + (n - 1), x.sign(0x2020202020202020L, n - 1), 300);
            }
            Check.refused("301", Check.ROOM, () -> x.sign('x', 1));
            Check.same("nothing of the refused came to the tape", x.read(), 0);
            Check.same("room for 8 behind read", x.sign(0x2020202020202020L, 8), 8);
        }
        DrillRows full = new DrillRows();
        Check.sign(full, " ".repeat(300));
        Check.refused("n ahead of the room", Check.OUTSIDE, () -> full.sign(0, 9));
        Check.refused("0 ahead of the room", Check.OUTSIDE, () -> full.sign(0, 0));
    }

    // read: "The tape (used up ..) becomes the script: how many events."
    private static void readUsesTheTapeUp() {
        DrillRows x = new DrillRows();
        Check.same("one", Check.read(x, "e1@0p0;"), 1);
        Check.same("the tape is empty", x.read(), 0);
        Check.refused("the script is empty too", Check.STATE, x::begin);
        Check.same("aims are no events", Check.read(x, "e1@0p0;a1e1>0<1w1;a2e1>0<1w1;"), 1);
        Check.same("sign from 1 on", x.sign(' ', 1), 1);
    }

    // read: "used up, also when this throws"; "IllegalStateException: it is wrong (the script stays)"
    private static void readThatThrowsUsesTheTapeUp() {
        DrillRows x = Check.with("e1@0p4;a1e1>0<1w3;");
        Check.sign(x, "e1@0p5;e2@0p5;a2e1>0<1w1;x" + " ".repeat(274));
        Check.refused("a wrong text", Check.STATE, x::read);
        Check.same("its place", x.place(), 25);
        Check.same("the tape is empty", x.sign(0x653340307036203BL, 8), 8);
        Check.same("the script stays", x.begin(), 0);
        Check.same("its part", x.event(0, 1, 1), 4);
        Check.refused("its events alone", Check.UNKNOWN, () -> x.event(0, 2, 1));
        Check.refused("its aims alone", Check.UNKNOWN, () -> x.aim(0, 2));
        Check.same("what came behind is read", x.read(), 1);
        Check.same("a drill by it", x.begin(), 1);
        Check.same("its part", x.event(1, 3, 1), 6);
    }

    // place: "Where the latest text was wrong; -1 when it was right, or there was none."
    private static void placeOfTheLatestText() {
        DrillRows x = new DrillRows();
        Check.same("none", x.place(), -1);
        x.sign('x', 1);
        Check.same("none is read", x.place(), -1);
        Check.refused("wrong", Check.STATE, x::read);
        Check.same("at 0", x.place(), 0);
        Check.same("and again", x.place(), 0);
        Check.sign(x, "e1");
        Check.same("until the next is read", x.place(), 0);
        Check.refused("wrong", Check.STATE, x::read);
        Check.same("at 2", x.place(), 2);
        Check.refused("a refused call", Check.STATE, x::begin);
        Check.same("still at 2", x.place(), 2);
        Check.same("an empty text is right", x.read(), 0);
        Check.same("no place", x.place(), -1);
    }
}
