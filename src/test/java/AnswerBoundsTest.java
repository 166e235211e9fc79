/**
 * The document's sentences on what a drill shows (event, seen, fault, aim, score, compare, observe,
 * row, play, drill), one test for each that names a bound. The sentence stands above its test.
 */
public final class AnswerBoundsTest {
    private static final int OPEN = 0;
    private static final int MET = 1;
    private static final int MISSED = 2;
    private static final int[] FAR = {-2, 50, 300, Integer.MIN_VALUE, Integer.MAX_VALUE};

    public static void main(String[] args) {
        whatsOfAnEvent();
        numbersOfEvents();
        beginOfAnEvent();
        seenByParts();
        seenUpToTheLast();
        partsThatSee();
        faultsOfEachBound();
        metAtTheBegin();
        metAtTheLastSecond();
        notMetAheadOfTheBegin();
        missedWhenTheSecondsHaveGoneBy();
        missedByTheStop();
        openOtherwise();
        aimOfAnEventThatBeganWithinATick();
        numbersOfAims();
        scoreOfNoAimMet();
        scoreOfAllAimsMet();
        scoreInLowestTerms();
        scoreOfTheFullScript();
        scoreWithoutAims();
        whatsOfAScore();
        compareFromNoneToAll();
        compareByNumbersThatBothHave();
        compareUnknownDrills();
        secondsOfARow();
        marksOfARow();
        lateRows();
        noRowAndHundredRows();
        rowsOfAStoppedDrill();
        whatsOfARow();
        actsBySeeds();
        whatsOfADrill();
        Check.end();
    }

    private static int on(DrillRows x, int drill, int fault) {
        return x.fault(drill, fault) ? 1 : 0;
    }

    // event: "0 the second .. 1 its part, 2 whether it is secret (1, 0), 3 its fault (0 none)"; "no such .. what"
    private static void whatsOfAnEvent() {
        DrillRows x = Check.drilling("e1@0p9!f9;e2@0p0;");
        int[] first = {0, 9, 1, 9};
        int[] second = {0, 0, 0, 0};
        for (int what = 0; what < 4; what++) {
            Check.same("event(0, 1, " + what + ")", x.event(0, 1, what), first[what]);
            Check.same("event(0, 2, " + what + ")", x.event(0, 2, what), second[what]);
        }
        Check.refused("what -1", Check.UNKNOWN, () -> x.event(0, 1, -1));
        Check.refused("what 4", Check.UNKNOWN, () -> x.event(0, 1, 4));
        for (int what : FAR) {
            Check.refused("what " + what, Check.UNKNOWN, () -> x.event(0, 1, what));
        }
    }

    // event: "(by its number)"; "IllegalArgumentException: no such drill, event"
    private static void numbersOfEvents() {
        DrillRows x = Check.drilling("e1@0p1;e3@0p3;e40@0p4;");
        Check.same("the lowest", x.event(0, 1, 1), 1);
        Check.same("the highest", x.event(0, 40, 1), 4);
        for (int number : new int[] {0, 2, 4, 39, 41, -1}) {
            Check.refused("event " + number, Check.UNKNOWN, () -> x.event(0, number, 1));
        }
        for (int number : FAR) {
            Check.refused("event " + number, Check.UNKNOWN, () -> x.event(0, number, 1));
        }
        Check.refused("drill 1", Check.UNKNOWN, () -> x.event(1, 1, 1));
        Check.refused("drill -1", Check.UNKNOWN, () -> x.event(-1, 1, 1));
    }

    // event: "the second at which it began (counted from the drill's begin; -1 not yet)"
    private static void beginOfAnEvent() {
        DrillRows x = Check.with("e1@0p0;e2@2p0;");
        x.tick(30);
        x.begin();
        Check.same("at the drill's begin", x.event(0, 1, 0), 0);
        Check.same("not yet", x.event(0, 2, 0), -1);
        x.tick(1);
        Check.same("a second ahead", x.event(0, 2, 0), -1);
        x.tick(1);
        Check.same("at its begin", x.event(0, 2, 0), 2);
        x.tick(1);
        Check.same("behind it", x.event(0, 2, 0), 2);
    }

    // seen: "that has begun and that a part (0 .. 9) may see (its own, and those that are not secret)"
    private static void seenByParts() {
        DrillRows x = Check.drilling("e1@0p0!;e2@0p9!;e3@0p9;e4@1p0;");
        int[][] due = {{1, 3, -1}, {3, -1, -1}, {2, 3, -1}};
        int[] parts = {0, 5, 9};
        for (int part = 0; part < parts.length; part++) {
            for (int i = 0; i < 3; i++) {
                Check.same("seen(0, " + parts[part] + ", " + i + ")", x.seen(0, parts[part], i), due[part][i]);
            }
        }
        x.tick(1);
        Check.same("begun now", x.seen(0, 9, 2), 4);
    }

    // seen: "The i-th event (0 first, by numbers) ..; -1 when there are not so many"; "i is below 0"
    private static void seenUpToTheLast() {
        DrillRows x = Check.drilling("e40@0p0;e1@0p0;e20@0p0;");
        Check.same("the first", x.seen(0, 0, 0), 1);
        Check.same("the second", x.seen(0, 0, 1), 20);
        Check.same("the last", x.seen(0, 0, 2), 40);
        Check.same("no more", x.seen(0, 0, 3), -1);
        Check.same("far more", x.seen(0, 0, 41), -1);
        Check.same("the greatest int", x.seen(0, 0, Integer.MAX_VALUE), -1);
        Check.refused("-1", Check.OUTSIDE, () -> x.seen(0, 0, -1));
        Check.refused("the least int", Check.OUTSIDE, () -> x.seen(0, 0, Integer.MIN_VALUE));
        DrillRows none = Check.drilling("e1@1p0;");
        Check.same("none has begun", none.seen(0, 0, 0), -1);
        Check.refused("-1 of none", Check.OUTSIDE, () -> none.seen(0, 0, -1));
    }

    // seen: "IllegalArgumentException: no such drill or part"
    private static void partsThatSee() {
        DrillRows x = Check.drilling("e1@0p0!;e2@0p9!;");
        Check.same("part 0", x.seen(0, 0, 0), 1);
        Check.same("part 9", x.seen(0, 9, 0), 2);
        Check.same("part 1", x.seen(0, 1, 0), -1);
        Check.refused("part -1", Check.UNKNOWN, () -> x.seen(0, -1, 0));
        Check.refused("part 10", Check.UNKNOWN, () -> x.seen(0, 10, 0));
        for (int part : FAR) {
            Check.refused("part " + part, Check.UNKNOWN, () -> x.seen(0, part, 0));
        }
    }

    // fault: "Whether a fault (1 .. 9) is on in a drill. IllegalArgumentException: no such drill or fault."
    private static void faultsOfEachBound() {
        DrillRows x = Check.drilling("e1@0p0f1;e2@0p0f9;e3@0p0;");
        Check.same("fault 1", on(x, 0, 1), 1);
        Check.same("fault 9", on(x, 0, 9), 1);
        for (int fault = 2; fault <= 8; fault++) {
            Check.same("fault " + fault, on(x, 0, fault), 0);
        }
        Check.refused("fault 0, though an event has none", Check.UNKNOWN, () -> on(x, 0, 0));
        Check.refused("fault 10", Check.UNKNOWN, () -> on(x, 0, 10));
        Check.refused("fault -1", Check.UNKNOWN, () -> on(x, 0, -1));
        for (int fault : FAR) {
            Check.refused("fault " + fault, Check.UNKNOWN, () -> on(x, 0, fault));
        }
    }

    // "the first such act at or behind the event's begin": at it
    private static void metAtTheBegin() {
        DrillRows x = Check.drilling("e1@0p0;e2@5p0;a1e1>7<1w1;a2e2>8<1w1;");
        x.act(0, 7);
        Check.same("in second 0", x.aim(0, 1), MET);
        x.tick(5);
        x.act(0, 8);
        Check.same("in the second of the begin", x.aim(0, 2), MET);
    }

    // "is to come within so many seconds of that begin": at the last of them, and behind it
    private static void metAtTheLastSecond() {
        DrillRows x = Check.drilling("e1@5p0;a1e1>7<10w1;a2e1>8<10w1;a3e1>9<10w1;");
        x.tick(14);
        x.act(0, 7);
        Check.same("a second ahead of the last", x.aim(0, 1), MET);
        x.tick(1);
        x.act(0, 8);
        Check.same("at the last", x.aim(0, 2), MET);
        x.tick(1);
        x.act(0, 9);
        Check.same("a second behind the last", x.aim(0, 3), MISSED);
        x.tick(5000);
        Check.same("met for ever", x.aim(0, 1) + x.aim(0, 2), 2 * MET);
    }

    // "the first such act at or behind the event's begin": acts ahead of it count for nothing
    private static void notMetAheadOfTheBegin() {
        DrillRows x = Check.drilling("e1@5p0;a1e1>7<3w1;a2e1>8<3w1;");
        x.tick(4);
        x.act(0, 7);
        x.act(0, 8);
        x.tick(1);
        Check.same("a second ahead", x.aim(0, 1), OPEN);
        x.tick(3);
        x.act(0, 7);
        Check.same("another act behind the begin", x.aim(0, 1), MET);
        x.tick(1);
        Check.same("none behind the begin", x.aim(0, 2), MISSED);
    }

    // "the seconds have gone by (the second is above begin and seconds)"
    private static void missedWhenTheSecondsHaveGoneBy() {
        DrillRows x = Check.with("e1@5p0;a1e1>7<10w1;");
        x.tick(50);
        x.begin();
        x.tick(15);
        Check.same("the second is begin and seconds", x.aim(0, 1), OPEN);
        x.tick(1);
        Check.same("the second is above", x.aim(0, 1), MISSED);
        x.act(0, 7);
        Check.same("an act comes too late", x.aim(0, 1), MISSED);
    }

    // "or the drill is stopped and it is not met"
    private static void missedByTheStop() {
        DrillRows x = Check.drilling("e1@0p0;e2@9p0;a1e1>1<9w1;a2e1>2<9w1;a3e2>1<9w1;");
        x.act(0, 1);
        Check.same("open until the stop", x.aim(0, 2) + x.aim(0, 3), 2 * OPEN);
        x.stop(0);
        Check.same("met stays", x.aim(0, 1), MET);
        Check.same("open is missed at once", x.aim(0, 2), MISSED);
        Check.same("also when the event has not begun", x.aim(0, 3), MISSED);
        x.tick(5000);
        Check.same("met stays", x.aim(0, 1), MET);
        Check.same("missed stays", x.aim(0, 3), MISSED);
    }

    // "OPEN otherwise": the event has not begun, however late it is
    private static void openOtherwise() {
        DrillRows x = Check.drilling("e1@9999p0;a1e1>7<1w1;");
        x.act(0, 7);
        Check.same("an act ahead", x.aim(0, 1), OPEN);
        x.tick(5000);
        x.tick(4998);
        Check.same("9,998", x.aim(0, 1), OPEN);
        x.tick(2);
        Check.same("10,000", x.aim(0, 1), OPEN);
        x.tick(1);
        Check.same("10,001", x.aim(0, 1), MISSED);
    }

    // "of that begin": the event's own second, not the one at which a tick ended
    private static void aimOfAnEventThatBeganWithinATick() {
        DrillRows x = Check.drilling("e1@5p0;a1e1>7<4w1;a2e1>7<5w1;a3e1>8<5w1;");
        x.tick(10);
        Check.same("gone by within the tick", x.aim(0, 1), MISSED);
        Check.same("its last second", x.aim(0, 2), OPEN);
        x.act(0, 7);
        Check.same("too late", x.aim(0, 1), MISSED);
        Check.same("in time", x.aim(0, 2), MET);
        x.tick(1);
        Check.same("gone by", x.aim(0, 3), MISSED);
    }

    // aim: "(by its number) .. IllegalArgumentException: no such drill or aim."
    private static void numbersOfAims() {
        DrillRows x = Check.drilling("e1@0p0;a1e1>1<9w1;a20e1>2<9w1;a5e1>1<9w1;");
        x.act(0, 1);
        Check.same("the lowest", x.aim(0, 1), MET);
        Check.same("the highest", x.aim(0, 20), OPEN);
        for (int number : new int[] {0, 2, 4, 6, 19, 21, -1}) {
            Check.refused("aim " + number, Check.UNKNOWN, () -> x.aim(0, number));
        }
        for (int number : FAR) {
            Check.refused("aim " + number, Check.UNKNOWN, () -> x.aim(0, number));
        }
        Check.refused("drill 1", Check.UNKNOWN, () -> x.aim(1, 1));
        Check.refused("drill -1", Check.UNKNOWN, () -> x.aim(-1, 1));
    }

    private static void scoreIs(DrillRows x, int upper, int lower) {
        Check.same("score(0, 0)", x.score(0, 0), upper);
        Check.same("score(0, 1)", x.score(0, 1), lower);
    }

    // score: "The score in lowest terms": of none, 0 over 1
    private static void scoreOfNoAimMet() {
        DrillRows x = Check.drilling("e1@0p0;a1e1>1<9w9;a2e1>2<9w6;");
        scoreIs(x, 0, 1);
        x.tick(10);
        scoreIs(x, 0, 1);
        x.stop(0);
        scoreIs(x, 0, 1);
    }

    // score: "the sum of weights of aims that are met over that of all aims": of all, 1 over 1
    private static void scoreOfAllAimsMet() {
        DrillRows x = Check.drilling("e1@0p0;a1e1>1<9w9;a2e1>1<9w6;");
        x.act(0, 1);
        scoreIs(x, 1, 1);
        x.stop(0);
        scoreIs(x, 1, 1);
    }

    // score: "in lowest terms"
    private static void scoreInLowestTerms() {
        int[][] terms = {{1, 1, 1, 2}, {2, 4, 1, 3}, {4, 2, 2, 3}, {3, 6, 1, 3}, {8, 1, 8, 9}, {9, 1, 9, 10}, {6, 9, 2, 5}};
        for (int[] each : terms) {
            DrillRows x = Check.drilling("e1@0p0;a1e1>1<9w" + each[0] + ";a2e1>2<9w" + each[1] + ";");
            x.act(0, 1);
            scoreIs(x, each[2], each[3]);
        }
    }

    // "A SCRIPT has at most 300 bytes": all twenty aims with the greatest weight, one met after another
    private static void scoreOfTheFullScript() {
        StringBuilder text = new StringBuilder("e1@0p0;");
        for (int number = 1; number <= 20; number++) {
            text.append('a').append(number).append("e1>").append(number - 1).append("<9w9;");
        }
        DrillRows x = Check.drilling(text.toString());
        scoreIs(x, 0, 1);
        int[] upper = {1, 1, 3, 1, 1, 3, 7, 2, 9, 1, 11, 3, 13, 7, 3, 4, 17, 9, 19, 1};
        int[] lower = {20, 10, 20, 5, 4, 10, 20, 5, 20, 2, 20, 5, 20, 10, 4, 5, 20, 10, 20, 1};
        for (int act = 0; act < 20; act++) {
            x.act(0, act);
            scoreIs(x, upper[act], lower[act]);
        }
    }

    // score: "ArithmeticException: it has no aims"; one is enough
    private static void scoreWithoutAims() {
        DrillRows none = Check.drilling("e1@0p0;");
        Check.refused("the upper number", Check.NO_SCORE, () -> none.score(0, 0));
        Check.refused("the lower number", Check.NO_SCORE, () -> none.score(0, 1));
        none.stop(0);
        Check.refused("of a stopped drill", Check.NO_SCORE, () -> none.score(0, 0));
        Check.read(none, "e1@0p0;a20e1>0<1w1;");
        Check.refused("a later text changes nothing", Check.NO_SCORE, () -> none.score(0, 0));
        none.begin();
        Check.same("one aim", none.score(1, 0) * 10 + none.score(1, 1), 1);
        none.read();
        Check.same("an empty text changes nothing", none.score(1, 1), 1);
    }

    // score: "IllegalArgumentException: no such drill or what", "then .. ArithmeticException"
    private static void whatsOfAScore() {
        DrillRows x = Check.drilling("e1@0p0;a1e1>0<1w1;");
        DrillRows none = Check.drilling("e1@0p0;");
        for (int what : new int[] {-1, 2, 3, Integer.MIN_VALUE, Integer.MAX_VALUE}) {
            Check.refused("what " + what, Check.UNKNOWN, () -> x.score(0, what));
            Check.refused("what " + what + " without aims", Check.UNKNOWN, () -> none.score(0, what));
        }
        for (int drill : new int[] {-1, 1, 8}) {
            Check.refused("drill " + drill, Check.UNKNOWN, () -> x.score(drill, 0));
            Check.refused("drill " + drill + " without aims", Check.UNKNOWN, () -> none.score(drill, 0));
        }
    }

    // compare: "How many aims .. are otherwise in two drills": from none to all twenty
    private static void compareFromNoneToAll() {
        StringBuilder text = new StringBuilder("e1@0p0;");
        for (int number = 1; number <= 20; number++) {
            text.append('a').append(number).append("e1>").append(number - 1).append("<9w9;");
        }
        DrillRows x = Check.drilling(text.toString());
        x.begin();
        Check.same("alike", x.compare(0, 1), 0);
        for (int act = 0; act < 20; act++) {
            x.act(1, act);
            Check.same("met and open", x.compare(0, 1), act + 1);
            Check.same("the other way round", x.compare(1, 0), act + 1);
            Check.same("itself", x.compare(1, 1), 0);
        }
        x.stop(0);
        Check.same("missed and met", x.compare(0, 1), 20);
    }

    // compare: "(by numbers that both have)"
    private static void compareByNumbersThatBothHave() {
        DrillRows x = Check.drilling("e1@0p0;a1e1>1<9w1;a2e1>1<9w1;a20e1>1<9w1;");
        Check.read(x, "e2@0p0;a3e2>1<9w1;a19e2>1<9w1;");
        x.begin();
        Check.read(x, "e3@0p0;");
        x.begin();
        Check.read(x, "e4@0p0;a20e4>2<9w9;a3e4>2<9w9;");
        x.begin();
        x.act(0, 1);
        Check.same("none in common", x.compare(0, 1), 0);
        Check.same("one without aims", x.compare(0, 2), 0);
        Check.same("two without aims", x.compare(2, 2), 0);
        Check.same("20 in common", x.compare(0, 3), 1);
        Check.same("3 in common, alike", x.compare(1, 3), 0);
        x.stop(3);
        Check.same("3 in common, open and missed", x.compare(3, 1), 1);
    }

    // compare: "IllegalArgumentException: no such drills"
    private static void compareUnknownDrills() {
        DrillRows x = Check.drilling("e1@0p0;a1e1>1<9w1;");
        for (int drill : new int[] {-1, 1, 7, 8, Integer.MIN_VALUE, Integer.MAX_VALUE}) {
            Check.refused("compare(0, " + drill + ")", Check.UNKNOWN, () -> x.compare(0, drill));
            Check.refused("compare(" + drill + ", 0)", Check.UNKNOWN, () -> x.compare(drill, 0));
            Check.refused("compare(" + drill + ", same)", Check.UNKNOWN, () -> x.compare(drill, drill));
        }
        Check.same("known", x.compare(0, 0), 0);
    }

    // observe: "IndexOutOfBoundsException: the second is to come (or below 0)"
    private static void secondsOfARow() {
        DrillRows x = Check.with("e1@0p0;");
        x.tick(40);
        x.begin();
        Check.same("second 0 in the second of the begin", x.observe(0, 0, 5), 0);
        Check.refused("second 1 is to come", Check.OUTSIDE, () -> x.observe(0, 1, 5));
        x.tick(9);
        Check.same("second 0", x.observe(0, 0, 5), 1);
        Check.same("the second itself", x.observe(0, 9, 5), 2);
        Check.refused("the second to come", Check.OUTSIDE, () -> x.observe(0, 10, 5));
        Check.refused("a second of the whole time", Check.OUTSIDE, () -> x.observe(0, 49, 5));
        Check.refused("-1", Check.OUTSIDE, () -> x.observe(0, -1, 5));
        Check.refused("the greatest int", Check.OUTSIDE, () -> x.observe(0, Integer.MAX_VALUE, 5));
        Check.refused("the least int", Check.OUTSIDE, () -> x.observe(0, Integer.MIN_VALUE, 5));
        Check.same("its number", x.observe(0, 9, 5), 3);
        Check.same("its second", x.row(2, 1), 9);
    }

    // "a mark 0 .. 9"; observe: "IndexOutOfBoundsException: .. or the mark"
    private static void marksOfARow() {
        DrillRows x = Check.drilling("e1@0p0;");
        Check.same("mark 0", x.observe(0, 0, 0), 0);
        Check.same("mark 9", x.observe(0, 0, 9), 1);
        for (int mark : new int[] {-1, 10, Integer.MIN_VALUE, Integer.MAX_VALUE}) {
            Check.refused("mark " + mark, Check.OUTSIDE, () -> x.observe(0, 0, mark));
        }
        Check.refused("no row was made", Check.UNKNOWN, () -> x.row(2, 0));
        Check.same("mark 0", x.row(0, 2), 0);
        Check.same("mark 9", x.row(1, 2), 9);
    }

    // "one that is told later than 60 seconds behind it is LATE"
    private static void lateRows() {
        DrillRows x = Check.with("e1@0p0;");
        x.tick(100);
        x.begin();
        x.observe(0, 0, 1);
        x.tick(60);
        x.observe(0, 0, 1);
        x.observe(0, 60, 1);
        x.tick(1);
        x.observe(0, 0, 1);
        x.observe(0, 1, 1);
        x.tick(5000);
        x.observe(0, 5000, 1);
        x.observe(0, 5001, 1);
        x.observe(0, 5061, 1);
        int[] late = {0, 0, 0, 1, 0, 1, 0, 0};
        for (int i = 0; i < late.length; i++) {
            Check.same("row(" + i + ", 3)", x.row(i, 3), late[i]);
        }
    }

    // "OBSERVERS' rows (at most 100 of all drills)"; observe: "UnsupportedOperationException: there are 100"
    private static void noRowAndHundredRows() {
        DrillRows x = Check.drilling("e1@0p0;");
        for (int i = 1; i < 8; i++) {
            x.begin();
        }
        Check.refused("no row", Check.UNKNOWN, () -> x.row(0, 0));
        for (int i = 0; i < 100; i++) {
            Check.same("its number", x.observe(i % 8, 0, i % 10), i);
        }
        for (int drill = 0; drill < 8; drill++) {
            int each = drill;
            Check.refused("row 101 of drill " + drill, Check.ROOM, () -> x.observe(each, 0, 0));
        }
        Check.same("the first row's drill", x.row(0, 0), 0);
        Check.same("the last row's drill", x.row(99, 0), 3);
        Check.same("the last row's mark", x.row(99, 2), 9);
        Check.refused("row 100", Check.UNKNOWN, () -> x.row(100, 0));
        x.stop(0);
        x.tick(1);
        Check.refused("a stop makes no room", Check.ROOM, () -> x.observe(1, 0, 0));
    }

    // observe: "no such drill" is not said of a stopped one; its seconds are counted on from its begin.
    private static void rowsOfAStoppedDrill() {
        DrillRows x = Check.drilling("e1@0p0;");
        x.tick(5);
        x.stop(0);
        Check.same("at once", x.observe(0, 5, 4), 0);
        Check.refused("to come", Check.OUTSIDE, () -> x.observe(0, 6, 4));
        x.tick(61);
        Check.same("later", x.observe(0, 5, 4), 1);
        Check.same("not late", x.row(0, 3), 0);
        Check.same("late", x.row(1, 3), 1);
    }

    // row: "IllegalArgumentException: there is none such, or no such what."
    private static void whatsOfARow() {
        DrillRows x = Check.drilling("e1@0p0;");
        x.begin();
        x.tick(61);
        x.observe(1, 0, 7);
        int[] due = {1, 0, 7, 1};
        for (int what = 0; what < 4; what++) {
            Check.same("row(0, " + what + ")", x.row(0, what), due[what]);
        }
        for (int what : new int[] {-1, 4, Integer.MIN_VALUE, Integer.MAX_VALUE}) {
            Check.refused("row(0, " + what + ")", Check.UNKNOWN, () -> x.row(0, what));
        }
        // Beside the first row, and where i * 4 would wrap around to it.
        for (int i : new int[] {-1, 1, 99, 100, 1 << 30, Integer.MIN_VALUE, Integer.MAX_VALUE}) {
            Check.refused("row(" + i + ", 0)", Check.UNKNOWN, () -> x.row(i, 0));
        }
    }

    /** All twenty acts begin an event each, so that the event that is seen tells the act. */
    private static String eventOfEachAct() {
        StringBuilder text = new StringBuilder();
        for (int act = 0; act < 20; act++) {
            text.append('e').append(act + 1).append('>').append(act).append("+0~9p0;");
        }
        return text.toString();
    }

    // play: "act (x >>> 16) modulo 20, with x = seed * 1,103,515,245 + 12,345 in 32 bits"
    private static void actsBySeeds() {
        int[][] actsOfSeeds = {
            {0, 0}, {1, 18}, {-1, 17}, {2, 16}, {3, 15}, {5, 15}, {-7, 4}, {12_345, 16}, {65_536, 17},
            {Integer.MAX_VALUE, 9}, {Integer.MIN_VALUE, 8},
            // x is 0, the greatest int, the least int, -1, and next to the bounds of the upper 16 bits.
            {-59_267_453, 0}, {-1_916_945_634, 7}, {2_088_216_195, 8}, {230_538_014, 15},
            {-115_164_386, 0}, {-404_969_853, 1}, {1_906_424_606, 19}, {1_616_619_139, 0},
        };
        for (int[] each : actsOfSeeds) {
            DrillRows x = Check.drilling(eventOfEachAct());
            Check.same("events by seed " + each[0], x.play(0, each[0]), 1);
            Check.same("act by seed " + each[0], x.seen(0, 0, 0), each[1] + 1);
            Check.same("again", x.play(0, each[0]), 0);
            Check.same("acts", x.drill(0, 2), 2);
        }
    }

    // drill: "IllegalArgumentException: no such drill or what."
    private static void whatsOfADrill() {
        DrillRows x = Check.with("e1@0p0;e2@0p0;e3@1p0;");
        x.tick(9);
        x.begin();
        x.unit(0, 4);
        x.unit(0, 5);
        x.unit(0, 6);
        x.act(0, 0);
        int[] due = {1, 9, 1, 3, 2};
        for (int what = 0; what < 5; what++) {
            Check.same("drill(0, " + what + ")", x.drill(0, what), due[what]);
        }
        for (int what : new int[] {-1, 5, Integer.MIN_VALUE, Integer.MAX_VALUE}) {
            Check.refused("drill(0, " + what + ")", Check.UNKNOWN, () -> x.drill(0, what));
        }
        for (int drill : new int[] {-1, 1, 7, 8, Integer.MIN_VALUE, Integer.MAX_VALUE}) {
            Check.refused("drill(" + drill + ", 0)", Check.UNKNOWN, () -> x.drill(drill, 0));
        }
        x.stop(0);
        Check.same("off", x.drill(0, 0), 0);
    }
}
