import java.util.Arrays;

/** Drills that play scripts: events by seconds and acts, aims, units, observers' rows and scores. */
public final class DrillRows {
    private static final int TAPE_LIMIT = 300;
    private static final int SIGN_LIMIT = 8;
    private static final int DIGIT_LIMIT = 4;
    private static final int EVENT_LIMIT = 40;
    private static final int AIM_LIMIT = 20;
    private static final int DRILL_LIMIT = 8;
    private static final int UNIT_LIMIT = 20;
    private static final int ACT_KINDS = 20;
    private static final int ACT_LIMIT = 60;
    private static final int LAST_PART = 9;
    private static final int LAST_FAULT = 9;
    private static final int LAST_WEIGHT = 9;
    private static final int LAST_MARK = 9;
    private static final int LAST_SCRIPT_SECOND = 9_999;
    private static final int LAST_DELAY = 999;
    private static final int LONGEST_AIM = 999;
    private static final int LAST_SECOND = 99_999;
    private static final int LONGEST_TICK = 5_000;
    private static final int ROW_LIMIT = 100;
    private static final int ROW_CELLS = 4;
    private static final int LATE_SECONDS = 60;

    private static final int NONE = -1;
    private static final int OPEN = 0;
    private static final int MET = 1;
    private static final int MISSED = 2;

    private final Tape tape = new Tape();
    private Script script = new Script();
    private Script spare = new Script();
    private int wrongPlace = NONE;
    private int now = 0;
    private final Drill[] drills = new Drill[DRILL_LIMIT];
    private int drillCount = 0;
    private final int[] drillOfUnit = new int[UNIT_LIMIT];
    private final int[] rowCells = new int[ROW_LIMIT * ROW_CELLS];
    private int rowCount = 0;

    public DrillRows() {
        Arrays.fill(drillOfUnit, NONE);
    }

    public int sign(long bytes, int n) throws IndexOutOfBoundsException, UnsupportedOperationException {
        if (n < 1 || n > SIGN_LIMIT) {
            throw new IndexOutOfBoundsException("not 1 to 8 bytes");
        }
        if (!tape.hasRoomFor(n)) {
            throw new UnsupportedOperationException("the tape would be too long");
        }
        return tape.append(bytes, n);
    }

    public int read() throws IllegalStateException {
        wrongPlace = tape.parseInto(spare);
        if (wrongPlace != NONE) {
            throw new IllegalStateException("the text is wrong");
        }
        Script former = script;
        script = spare;
        // A script that a drill plays must stay as it is, so only an unused one is written over.
        spare = former.played ? new Script() : former;
        return script.eventCount;
    }

    public int place() {
        return wrongPlace;
    }

    public int begin() throws IllegalStateException, UnsupportedOperationException {
        if (script.eventCount == 0) {
            throw new IllegalStateException("the script has no events");
        }
        if (drillCount < 0 || drillCount >= drills.length) {
            throw new UnsupportedOperationException("there are 8 drills");
        }
        Drill started = new Drill(script, now);
        script.played = true;
        drills[drillCount] = started;
        drillCount++;
        started.beginDueEvents(now);
        return drillCount - 1;
    }

    public void stop(int drill) throws IllegalArgumentException, IllegalStateException {
        Drill found = knownDrill(drill);
        if (!found.on) {
            throw new IllegalStateException("the drill is stopped");
        }
        found.on = false;
        for (int unit = 0; unit < drillOfUnit.length; unit++) {
            if (drillOfUnit[unit] == drill) {
                drillOfUnit[unit] = NONE;
            }
        }
    }

    public void unit(int drill, int unit) throws IllegalArgumentException, IllegalStateException {
        Drill found = knownDrill(drill);
        if (unit < 0 || unit >= drillOfUnit.length) {
            throw new IllegalArgumentException("no such unit");
        }
        if (!found.on || drillOfUnit[unit] != NONE) {
            throw new IllegalStateException("the drill is stopped, or the unit drills");
        }
        drillOfUnit[unit] = drill;
    }

    public int real(int unit) throws IllegalArgumentException {
        if (unit < 0 || unit >= drillOfUnit.length) {
            throw new IllegalArgumentException("no such unit");
        }
        int freedFrom = drillOfUnit[unit];
        drillOfUnit[unit] = NONE;
        return freedFrom;
    }

    public int act(int drill, int act) throws IllegalArgumentException, IllegalStateException, UnsupportedOperationException {
        Drill found = knownDrill(drill);
        if (act < 0 || act >= ACT_KINDS) {
            throw new IllegalArgumentException("no such act");
        }
        if (!found.on) {
            throw new IllegalStateException("the drill is stopped");
        }
        if (!found.hasRoomForAct()) {
            throw new UnsupportedOperationException("the drill had 60 acts");
        }
        found.noteAct(act, now);
        return found.beginDueEvents(now);
    }

    public int tick(int seconds) throws IndexOutOfBoundsException {
        if (seconds < 1 || seconds > LONGEST_TICK || now + seconds > LAST_SECOND) {
            throw new IndexOutOfBoundsException("not 1 to 5,000 seconds, or beyond the last second");
        }
        now += seconds;
        int began = 0;
        for (Drill each : drills) {
            if (each != null && each.on) {
                began += each.beginDueEvents(now);
            }
        }
        return began;
    }

    public int event(int drill, int number, int what) throws IllegalArgumentException {
        Drill found = knownDrill(drill);
        if (!found.script.hasEvent(number)) {
            throw new IllegalArgumentException("no such event");
        }
        switch (what) {
            case 0:
                return found.beginOf(number);
            case 1:
                return found.script.eventPart[number];
            case 2:
                return found.script.eventSecret[number] ? 1 : 0;
            case 3:
                return found.script.eventFault[number];
            default:
                throw new IllegalArgumentException("no such what");
        }
    }

    public int seen(int drill, int part, int i) throws IllegalArgumentException, IndexOutOfBoundsException {
        Drill found = knownDrill(drill);
        if (part < 0 || part > LAST_PART) {
            throw new IllegalArgumentException("no such part");
        }
        if (i < 0) {
            throw new IndexOutOfBoundsException("below 0");
        }
        return found.eventSeenBy(part, i);
    }

    public boolean fault(int drill, int fault) throws IllegalArgumentException {
        Drill found = knownDrill(drill);
        if (fault < 1 || fault > LAST_FAULT) {
            throw new IllegalArgumentException("no such fault");
        }
        return found.on && found.hasBegunFault(fault);
    }

    public int aim(int drill, int number) throws IllegalArgumentException {
        Drill found = knownDrill(drill);
        if (!found.script.hasAim(number)) {
            throw new IllegalArgumentException("no such aim");
        }
        return found.stateOfAim(number, now);
    }

    public int score(int drill, int what) throws IllegalArgumentException, ArithmeticException {
        Drill found = knownDrill(drill);
        if (what < 0 || what > 1) {
            throw new IllegalArgumentException("no such what");
        }
        int lower = found.script.weightOfAims();
        if (lower == 0) {
            throw new ArithmeticException("the drill has no aims");
        }
        int upper = found.weightOfMetAims(now);
        return inLowestTerms(what == 0 ? upper : lower, upper, lower);
    }

    public int compare(int drill, int other) throws IllegalArgumentException {
        Drill one = knownDrill(drill);
        Drill two = knownDrill(other);
        int otherwise = 0;
        for (int number = 1; number <= AIM_LIMIT; number++) {
            boolean both = one.script.hasAim(number) && two.script.hasAim(number);
            if (both && one.stateOfAim(number, now) != two.stateOfAim(number, now)) {
                otherwise++;
            }
        }
        return otherwise;
    }

    public int observe(int drill, int second, int mark) throws IllegalArgumentException, IndexOutOfBoundsException, UnsupportedOperationException {
        Drill found = knownDrill(drill);
        int drillSecond = found.drillSecond(now);
        if (second < 0 || second > drillSecond || mark < 0 || mark > LAST_MARK) {
            throw new IndexOutOfBoundsException("the second or the mark");
        }
        int cell = rowCount * ROW_CELLS;
        if (cell < 0 || cell + ROW_CELLS > rowCells.length) {
            throw new UnsupportedOperationException("there are 100 rows");
        }
        rowCells[cell] = drill;
        rowCells[cell + 1] = second;
        rowCells[cell + 2] = mark;
        rowCells[cell + 3] = drillSecond - second > LATE_SECONDS ? 1 : 0;
        rowCount++;
        return rowCount - 1;
    }

    public int row(int i, int what) throws IllegalArgumentException {
        if (i < 0 || i >= rowCount || what < 0 || what >= ROW_CELLS) {
            throw new IllegalArgumentException("no such row or what");
        }
        return rowCells[i * ROW_CELLS + what];
    }

    public int play(int drill, int seed) throws IllegalArgumentException, IllegalStateException, UnsupportedOperationException {
        int x = seed * 1_103_515_245 + 12_345;
        return act(drill, (x >>> 16) % ACT_KINDS);
    }

    public int drill(int drill, int what) throws IllegalArgumentException {
        Drill found = knownDrill(drill);
        switch (what) {
            case 0:
                return found.on ? 1 : 0;
            case 1:
                return found.beganAt;
            case 2:
                return found.actCount;
            case 3:
                return countUnits(drill);
            case 4:
                return found.begunCount;
            default:
                throw new IllegalArgumentException("no such what");
        }
    }

    private Drill knownDrill(int number) {
        Drill found = number >= 0 && number < drills.length ? drills[number] : null;
        if (found == null) {
            throw new IllegalArgumentException("no such drill");
        }
        return found;
    }

    private int countUnits(int drill) {
        int count = 0;
        for (int each : drillOfUnit) {
            if (each == drill) {
                count++;
            }
        }
        return count;
    }

    /** One number of a fraction, divided by the greatest divisor that both have. */
    private static int inLowestTerms(int number, int upper, int lower) {
        for (int divisor = lower; divisor > 1; divisor--) {
            if (upper % divisor == 0 && lower % divisor == 0) {
                return number / divisor;
            }
        }
        return number;
    }

    /** What a right text tells: events and aims, each in the place of its number. */
    private static final class Script {
        final boolean[] eventTold = new boolean[EVENT_LIMIT + 1];
        /** NONE for an event at a second: it waits for no act and begins at its latest second. */
        final int[] eventAct = new int[EVENT_LIMIT + 1];
        final int[] eventDelay = new int[EVENT_LIMIT + 1];
        final int[] eventLatest = new int[EVENT_LIMIT + 1];
        final int[] eventPart = new int[EVENT_LIMIT + 1];
        final boolean[] eventSecret = new boolean[EVENT_LIMIT + 1];
        final int[] eventFault = new int[EVENT_LIMIT + 1];
        int eventCount = 0;
        final int[] aimEvent = new int[AIM_LIMIT + 1];
        final int[] aimAct = new int[AIM_LIMIT + 1];
        final int[] aimSeconds = new int[AIM_LIMIT + 1];
        /** 0 for an aim that is not told, since a weight is at least 1. */
        final int[] aimWeight = new int[AIM_LIMIT + 1];
        boolean played = false;

        void clear() {
            for (int number = 0; number < eventTold.length; number++) {
                eventTold[number] = false;
            }
            Arrays.fill(aimWeight, 0);
            eventCount = 0;
        }

        boolean hasEvent(int number) {
            return number >= 1 && number < eventTold.length && eventTold[number];
        }

        boolean hasAim(int number) {
            return number >= 1 && number < aimWeight.length && aimWeight[number] > 0;
        }

        void addEvent(int number, int act, int delay, int latest) {
            if (number < 1 || number > EVENT_LIMIT) {
                return;
            }
            eventTold[number] = true;
            eventAct[number] = act;
            eventDelay[number] = delay;
            eventLatest[number] = latest;
            eventCount++;
        }

        void describeEvent(int number, int part, boolean secret, int fault) {
            if (number < 1 || number > EVENT_LIMIT) {
                return;
            }
            eventPart[number] = part;
            eventSecret[number] = secret;
            eventFault[number] = fault;
        }

        void addAim(int number, int event, int act, int seconds, int weight) {
            if (number < 1 || number > AIM_LIMIT) {
                return;
            }
            aimEvent[number] = event;
            aimAct[number] = act;
            aimSeconds[number] = seconds;
            aimWeight[number] = weight;
        }

        int weightOfAims() {
            int sum = 0;
            for (int weight : aimWeight) {
                sum += weight;
            }
            return sum;
        }
    }

    /** The bytes told by sign, and the reader that makes a script of them. */
    private static final class Tape {
        private final int[] bytes = new int[TAPE_LIMIT];
        private int length = 0;
        private int at = 0;
        private int wrongAt = NONE;

        boolean hasRoomFor(int n) {
            return length + n <= bytes.length;
        }

        int append(long packed, int n) {
            for (int left = n - 1; left >= 0 && length < bytes.length; left--) {
                bytes[length] = (int) (packed >>> (8 * left)) & 0xFF;
                length++;
            }
            return length;
        }

        /** Uses the tape up; answers where it was wrong, or NONE. */
        int parseInto(Script target) {
            target.clear();
            at = 0;
            wrongAt = NONE;
            skipBlanks();
            for (int rows = 0; rows < TAPE_LIMIT && at < length && wrongAt == NONE; rows++) {
                parseRow(target);
                skipBlanks();
            }
            length = 0;
            return wrongAt;
        }

        private void parseRow(Script target) {
            if (accept('e')) {
                parseEvent(target);
            } else if (accept('a')) {
                parseAim(target);
            } else {
                fail(at);
            }
        }

        // Parsing goes on to the row's end behind a fault: only the first fault is kept.
        private void parseEvent(Script target) {
            int number = parseNumber(1, EVENT_LIMIT);
            if (target.hasEvent(number)) {
                fail(at - 1);
            }
            int act = NONE;
            int delay = 0;
            if (!accept('@')) {
                expect('>');
                act = parseNumber(0, ACT_KINDS - 1);
                expect('+');
                delay = parseNumber(0, LAST_DELAY);
                expect('~');
            }
            int latest = parseNumber(0, LAST_SCRIPT_SECOND);
            expect('p');
            int part = parseNumber(0, LAST_PART);
            boolean secret = accept('!');
            int fault = accept('f') ? parseNumber(1, LAST_FAULT) : 0;
            expect(';');
            if (wrongAt == NONE) {
                target.addEvent(number, act, delay, latest);
                target.describeEvent(number, part, secret, fault);
            }
        }

        private void parseAim(Script target) {
            int number = parseNumber(1, AIM_LIMIT);
            if (target.hasAim(number)) {
                fail(at - 1);
            }
            expect('e');
            int event = parseNumber(1, EVENT_LIMIT);
            if (!target.hasEvent(event)) {
                fail(at - 1);
            }
            expect('>');
            int act = parseNumber(0, ACT_KINDS - 1);
            expect('<');
            int seconds = parseNumber(1, LONGEST_AIM);
            expect('w');
            int weight = parseNumber(1, LAST_WEIGHT);
            expect(';');
            if (wrongAt == NONE) {
                target.addAim(number, event, act, seconds, weight);
            }
        }

        /** Stops behind a leading 0 and behind four digits: a digit more is no part of the number. */
        private int parseNumber(int low, int high) {
            skipBlanks();
            int value = 0;
            int digits = 0;
            while (digits < DIGIT_LIMIT && isDigit(nextByte()) && (digits == 0 || value > 0)) {
                value = value * 10 + nextByte() - '0';
                digits++;
                at++;
            }
            if (digits == 0) {
                fail(at);
            } else if (value < low || value > high) {
                fail(at - 1);
            }
            return value;
        }

        private void expect(char wanted) {
            if (!accept(wanted)) {
                fail(at);
            }
        }

        private boolean accept(char wanted) {
            skipBlanks();
            if (nextByte() != wanted) {
                return false;
            }
            at++;
            return true;
        }

        private void skipBlanks() {
            while (at < length && nextByte() == ' ') {
                at++;
            }
        }

        private int nextByte() {
            return at >= 0 && at < length && at < bytes.length ? bytes[at] : NONE;
        }

        private static boolean isDigit(int sign) {
            return sign >= '0' && sign <= '9';
        }

        private void fail(int where) {
            if (wrongAt == NONE) {
                wrongAt = where;
            }
        }
    }

    /** A drill by its script; its seconds are counted from its begin. */
    private static final class Drill {
        final Script script;
        final int beganAt;
        boolean on = true;
        private final int[] eventBegin = new int[EVENT_LIMIT + 1];
        int begunCount = 0;
        private final int[] firstAct = new int[ACT_KINDS];
        private final int[] actKind = new int[ACT_LIMIT];
        private final int[] actSecond = new int[ACT_LIMIT];
        int actCount = 0;

        Drill(Script script, int beganAt) {
            this.script = script;
            this.beganAt = beganAt;
            Arrays.fill(eventBegin, NONE);
            Arrays.fill(firstAct, NONE);
        }

        int drillSecond(int now) {
            return now - beganAt;
        }

        int beginOf(int number) {
            return number >= 0 && number < eventBegin.length ? eventBegin[number] : NONE;
        }

        boolean hasRoomForAct() {
            return actCount < ACT_LIMIT;
        }

        void noteAct(int act, int now) {
            if (act < 0 || act >= firstAct.length || actCount < 0 || actCount >= ACT_LIMIT) {
                return;
            }
            int second = drillSecond(now);
            actKind[actCount] = act;
            actSecond[actCount] = second;
            actCount++;
            if (firstAct[act] == NONE) {
                firstAct[act] = second;
            }
        }

        /** Begins each event at the second at which it was due, up to now; answers how many. */
        int beginDueEvents(int now) {
            int second = drillSecond(now);
            int began = 0;
            for (int number = 1; number < eventBegin.length; number++) {
                if (script.hasEvent(number) && eventBegin[number] == NONE) {
                    int due = dueSecond(number);
                    if (due <= second) {
                        eventBegin[number] = due;
                        began++;
                    }
                }
            }
            begunCount += began;
            return began;
        }

        private int dueSecond(int number) {
            int latest = script.eventLatest[number];
            int first = firstSecondOf(script.eventAct[number]);
            return first == NONE ? latest : Math.min(first + script.eventDelay[number], latest);
        }

        private int firstSecondOf(int act) {
            return act >= 0 && act < firstAct.length ? firstAct[act] : NONE;
        }

        int eventSeenBy(int part, int i) {
            int ahead = 0;
            for (int number = 1; number < eventBegin.length; number++) {
                if (eventBegin[number] != NONE && maySee(part, number)) {
                    if (ahead == i) {
                        return number;
                    }
                    ahead++;
                }
            }
            return NONE;
        }

        private boolean maySee(int part, int number) {
            return !script.eventSecret[number] || script.eventPart[number] == part;
        }

        boolean hasBegunFault(int fault) {
            for (int number = 1; number < eventBegin.length; number++) {
                if (eventBegin[number] != NONE && script.eventFault[number] == fault) {
                    return true;
                }
            }
            return false;
        }

        int stateOfAim(int number, int now) {
            if (!script.hasAim(number)) {
                return OPEN;
            }
            int begin = beginOf(script.aimEvent[number]);
            int last = begin + script.aimSeconds[number];
            if (begin != NONE && hasActWithin(script.aimAct[number], begin, last)) {
                return MET;
            }
            boolean goneBy = begin != NONE && drillSecond(now) > last;
            return goneBy || !on ? MISSED : OPEN;
        }

        private boolean hasActWithin(int act, int from, int to) {
            for (int i = 0; i < actCount && i < ACT_LIMIT; i++) {
                if (actKind[i] == act && actSecond[i] >= from && actSecond[i] <= to) {
                    return true;
                }
            }
            return false;
        }

        int weightOfMetAims(int now) {
            int sum = 0;
            for (int number = 1; number <= AIM_LIMIT; number++) {
                if (script.hasAim(number) && stateOfAim(number, now) == MET) {
                    sum += script.aimWeight[number];
                }
            }
            return sum;
        }
    }
}
