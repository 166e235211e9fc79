/**
 * The document's sentences on time, drills, units, acts, events, aims and observers' rows, one test
 * for each that names a bound. The sentence stands above its test.
 */
public final class StateBoundsTest {
    public static void main(String[] args) {
        fiveHundredTwelveCalls();
        secondIsZeroAtFirst();
        lastSecond();
        lastSecondInOneTick();
        beginAtTheLastSecond();
        ticksOfEachBound();
        noDrillAndEightDrills();
        numbersOfStoppedDrillsStay();
        beginWithoutEvents();
        eventsDueAtSecondZero();
        scriptAsItWasAtTheBegin();
        scriptsOfEightDrills();
        unitsOfEachBound();
        noUnitAndAllUnits();
        unitInOneDrillAtMost();
        stopFreesUnits();
        realCallAtOnce();
        noActAndSixtyActs();
        sixtyActsOfEachDrill();
        sixtyPlays();
        eventBeginsOnce();
        eventBeginsInTheCallOfItsAct();
        eventBeginsTheDelayBehindItsFirstAct();
        eventBeginsAtItsLatestSecond();
        eventBeginsAtItsOwnSecondWithinATick();
        noEventBeginsBehindTheStop();
        eventsOfOneSecondInAllDrills();
        faultsUntilTheStop();
        Check.end();
    }

    private static void tells(DrillRows x, int drill, int... due) {
        for (int what = 0; what < due.length; what++) {
            Check.same("drill(" + drill + ", " + what + ")", x.drill(drill, what), due[what]);
        }
    }

    private static long unit(DrillRows x, int drill, int unit) {
        x.unit(drill, unit);
        return 0;
    }

    private static long stop(DrillRows x, int drill) {
        x.stop(drill);
        return 0;
    }

    // "An object is used for at most 512 calls after it has been made"
    private static void fiveHundredTwelveCalls() {
        DrillRows x = new DrillRows();
        Check.same("call 1", x.sign(0x6531403070303BL, 7), 7);
        Check.same("call 2", x.read(), 1);
        for (int i = 0; i < 8; i++) {
            Check.same("calls 3 to 10", x.begin(), i);
        }
        for (int i = 0; i < 400; i++) {
            Check.same("calls 11 to 410", x.act(i % 8, i % 20), 0);
        }
        for (int i = 0; i < 100; i++) {
            Check.same("calls 411 to 510", x.observe(i % 8, 0, i % 10), i);
        }
        Check.same("call 511", x.drill(7, 2), 50);
        Check.same("call 512", x.row(99, 2), 9);
    }

    // "TIME is in seconds, 0 .. 99,999; THE SECOND is 0 at first and goes on by tick()"
    private static void secondIsZeroAtFirst() {
        DrillRows x = Check.drilling("e1@0p0;");
        Check.same("the second of a new object", x.drill(0, 1), 0);
        x.act(0, 0);
        x.observe(0, 0, 0);
        x.begin();
        Check.same("other calls take no time", x.drill(1, 1), 0);
        x.tick(1);
        x.begin();
        Check.same("a second behind", x.drill(2, 1), 1);
    }

    // tick: "IndexOutOfBoundsException: the seconds, or beyond 99,999"
    private static void lastSecond() {
        DrillRows x = Check.with("e1@0p0;");
        for (int i = 0; i < 19; i++) {
            Check.same("5,000 more", x.tick(5000), 0);
        }
        Check.refused("100,000 by 5,000", Check.OUTSIDE, () -> x.tick(5000));
        x.begin();
        Check.same("no time went on", x.drill(0, 1), 95_000);
        Check.same("99,999 by 4,999", x.tick(4999), 0);
        for (int seconds : new int[] {1, 2, 5000, 5001, 0, -1, Integer.MAX_VALUE, Integer.MIN_VALUE}) {
            Check.refused("beyond by " + seconds, Check.OUTSIDE, () -> x.tick(seconds));
        }
        x.begin();
        Check.same("the last second", x.drill(1, 1), 99_999);
    }

    // tick: "beyond 99,999", one second at a time
    private static void lastSecondInOneTick() {
        DrillRows x = Check.with("e1@2p0;");
        for (int i = 0; i < 19; i++) {
            x.tick(5000);
        }
        x.tick(4997);
        x.begin();
        Check.same("99,998", x.tick(1), 0);
        Check.refused("100,000", Check.OUTSIDE, () -> x.tick(2));
        Check.same("99,999", x.tick(1), 1);
        Check.refused("100,000", Check.OUTSIDE, () -> x.tick(1));
        Check.same("when", x.event(0, 1, 0), 2);
    }

    // "TIME is in seconds, 0 .. 99,999": what is done in the last second
    private static void beginAtTheLastSecond() {
        DrillRows x = Check.with("e1@0p0f1;e2@1p0;e3>5+0~9p0;a1e1>5<1w1;a2e2>5<1w1;");
        for (int i = 0; i < 19; i++) {
            x.tick(5000);
        }
        x.tick(4999);
        Check.same("begin", x.begin(), 0);
        tells(x, 0, 1, 99_999, 0, 0, 1);
        Check.same("an act", x.act(0, 5), 1);
        Check.same("met", x.aim(0, 1), 1);
        Check.same("open for ever", x.aim(0, 2), 0);
        Check.same("observe", x.observe(0, 0, 9), 0);
        Check.refused("a second to come", Check.OUTSIDE, () -> x.observe(0, 1, 9));
        x.stop(0);
        Check.same("missed by the stop", x.aim(0, 2), 2);
    }

    // tick: "Time goes on (1 .. 5,000 seconds): how many events began."
    private static void ticksOfEachBound() {
        DrillRows x = Check.drilling("e1@1p0;e2@5001p0;e3@5002p0;");
        Check.refused("0", Check.OUTSIDE, () -> x.tick(0));
        Check.refused("-1", Check.OUTSIDE, () -> x.tick(-1));
        Check.refused("5,001", Check.OUTSIDE, () -> x.tick(5001));
        Check.refused("the least int", Check.OUTSIDE, () -> x.tick(Integer.MIN_VALUE));
        Check.refused("the greatest int", Check.OUTSIDE, () -> x.tick(Integer.MAX_VALUE));
        Check.same("none began by these", x.drill(0, 4), 0);
        Check.same("1", x.tick(1), 1);
        Check.same("5,000", x.tick(5000), 1);
        Check.same("when", x.event(0, 2, 0), 5001);
        Check.same("1 more", x.tick(1), 1);
    }

    // "DRILLS 0, 1, .. (at most 8)"; begin: "UnsupportedOperationException: there are 8"
    private static void noDrillAndEightDrills() {
        DrillRows x = Check.with("e1@0p0;");
        Check.refused("no drill", Check.UNKNOWN, () -> x.drill(0, 0));
        for (int i = 0; i < 8; i++) {
            int next = i + 1;
            Check.same("begin", x.begin(), i);
            tells(x, i, 1, 0, 0, 0, 1);
            Check.refused("drill " + next, Check.UNKNOWN, () -> x.drill(next, 0));
        }
        Check.refused("a ninth", Check.ROOM, x::begin);
        Check.refused("drill 8", Check.UNKNOWN, () -> x.drill(8, 0));
        Check.same("the eighth goes on", x.act(7, 0), 0);
        tells(x, 7, 1, 0, 1, 0, 1);
    }

    // begin: "there are 8", stopped ones too; "no such drill" is not said of a stopped one.
    private static void numbersOfStoppedDrillsStay() {
        DrillRows x = Check.with("e1@0p0;");
        for (int i = 0; i < 8; i++) {
            Check.same("begin", x.begin(), i);
            x.stop(i);
        }
        Check.refused("a ninth behind eight stops", Check.ROOM, x::begin);
        for (int i = 0; i < 8; i++) {
            tells(x, i, 0, 0, 0, 0, 1);
        }
    }

    // begin: "IllegalStateException: the script has no events"; with 8 drills too
    private static void beginWithoutEvents() {
        DrillRows x = new DrillRows();
        Check.refused("no text", Check.STATE, x::begin);
        x.read();
        Check.refused("no rows", Check.STATE, x::begin);
        Check.same("one event is enough", Check.read(x, "e40@9999p0;"), 1);
        for (int i = 0; i < 8; i++) {
            Check.same("begin", x.begin(), i);
        }
        Check.refused("no room", Check.ROOM, x::begin);
        Check.same("no events", Check.read(x, "  "), 0);
        Check.refused("no events and no room", Check.STATE, x::begin);
        Check.same("an event again", Check.read(x, "e1@0p0;"), 1);
        Check.refused("no room again", Check.ROOM, x::begin);
    }

    // begin: "(events that are due at second 0 begin at once)"
    private static void eventsDueAtSecondZero() {
        DrillRows x = Check.with("e1@0p0;e2@1p0;e3>0+0~0p0;e4>0+0~1p0;e5>0+999~0p0f9;");
        x.tick(7);
        x.begin();
        tells(x, 0, 1, 7, 0, 0, 3);
        Check.same("at second 0", x.event(0, 1, 0), 0);
        Check.same("not at second 1", x.event(0, 2, 0), -1);
        Check.same("latest 0", x.event(0, 3, 0), 0);
        Check.same("latest 1", x.event(0, 4, 0), -1);
        Check.same("latest 0 with a delay", x.event(0, 5, 0), 0);
        Check.same("its fault is on", x.fault(0, 9) ? 1 : 0, 1);
        Check.same("seen", x.seen(0, 0, 2), 5);
        Check.same("no more", x.seen(0, 0, 3), -1);
        Check.same("the others", x.tick(1), 2);
    }

    // "play a script (the one read last, as it was when the drill began)"
    private static void scriptAsItWasAtTheBegin() {
        DrillRows x = Check.drilling("e1@3p1!f2;a1e1>1<5w2;");
        x.read();
        Check.same("an empty text changes nothing", x.event(0, 1, 1), 1);
        Check.read(x, "e1@4p3f4;e2@3p0;a1e1>2<5w1;a2e1>2<5w1;");
        Check.refused("no event of the newer", Check.UNKNOWN, () -> x.event(0, 2, 0));
        Check.refused("no aim of the newer", Check.UNKNOWN, () -> x.aim(0, 2));
        Check.same("its own second", x.tick(3), 1);
        Check.same("its own part", x.event(0, 1, 1), 1);
        Check.same("secret still", x.event(0, 1, 2), 1);
        Check.same("its own fault", x.fault(0, 2) ? 1 : 0, 1);
        Check.same("not the newer's", x.fault(0, 4) ? 1 : 0, 0);
        x.act(0, 1);
        Check.same("its own aim", x.aim(0, 1), 1);
        Check.same("begin by the newer", x.begin(), 1);
        Check.same("the newer's part", x.event(1, 1, 1), 3);
        Check.same("not secret", x.event(1, 1, 2), 0);
    }

    // "DRILLS .. (at most 8) play a script": eight drills by eight scripts, and a ninth text
    private static void scriptsOfEightDrills() {
        DrillRows x = new DrillRows();
        for (int i = 0; i < 8; i++) {
            Check.read(x, "e" + (i + 1) + "@" + i + "p" + i + ";a" + (i + 1) + "e" + (i + 1) + ">" + i + "<9w1;");
            x.begin();
        }
        Check.read(x, "e9@0p9;");
        x.tick(7);
        for (int i = 0; i < 8; i++) {
            int drill = i;
            Check.same("part of " + i, x.event(i, i + 1, 1), i);
            Check.same("second of " + i, x.event(i, i + 1, 0), i);
            Check.refused("the ninth text's event", Check.UNKNOWN, () -> x.event(drill, 9, 0));
            x.act(i, i);
            Check.same("aim of " + i, x.aim(i, i + 1), 1);
        }
        Check.same("none in common", x.compare(0, 7), 0);
    }

    // "UNITS 0 .. 19"
    private static void unitsOfEachBound() {
        DrillRows x = Check.drilling("e1@0p0;");
        for (int unit : new int[] {-1, 20, 21, Integer.MIN_VALUE, Integer.MAX_VALUE}) {
            Check.refused("unit " + unit, Check.UNKNOWN, () -> unit(x, 0, unit));
            Check.refused("real " + unit, Check.UNKNOWN, () -> x.real(unit));
        }
        tells(x, 0, 1, 0, 0, 0, 1);
        x.unit(0, 0);
        x.unit(0, 19);
        tells(x, 0, 1, 0, 0, 2, 1);
        Check.same("real 0", x.real(0), 0);
        Check.same("real 19", x.real(19), 0);
        tells(x, 0, 1, 0, 0, 0, 1);
    }

    // drill: "3 units that drill"
    private static void noUnitAndAllUnits() {
        DrillRows x = Check.drilling("e1@0p0;");
        for (int unit = 0; unit < 20; unit++) {
            Check.same("units", x.drill(0, 3), unit);
            x.unit(0, unit);
        }
        Check.same("all units", x.drill(0, 3), 20);
        for (int unit = 0; unit < 20; unit++) {
            Check.same("real " + unit, x.real(unit), 0);
            Check.same("again " + unit, x.real(unit), -1);
            Check.same("units", x.drill(0, 3), 19 - unit);
        }
    }

    // "UNITS 0 .. 19 DRILL in at most one drill that is on."; unit: "IllegalStateException: .. or the unit drills"
    private static void unitInOneDrillAtMost() {
        DrillRows x = Check.drilling("e1@0p0;");
        x.begin();
        x.unit(0, 7);
        Check.refused("in the same drill", Check.STATE, () -> unit(x, 0, 7));
        Check.refused("in another", Check.STATE, () -> unit(x, 1, 7));
        tells(x, 0, 1, 0, 0, 1, 1);
        tells(x, 1, 1, 0, 0, 0, 1);
        x.stop(0);
        x.unit(1, 7);
        tells(x, 0, 0, 0, 0, 0, 1);
        tells(x, 1, 1, 0, 0, 1, 1);
        Check.same("freed from the drill that is on", x.real(7), 1);
        Check.refused("the stopped drill takes none", Check.STATE, () -> unit(x, 0, 7));
        Check.same("it does not drill", x.real(7), -1);
    }

    // stop: "A drill is stopped; its units are free .. IllegalStateException: it is."
    private static void stopFreesUnits() {
        DrillRows x = Check.drilling("e1@0p0;");
        x.begin();
        for (int unit = 0; unit < 20; unit++) {
            x.unit(unit < 19 ? 1 : 0, unit);
        }
        x.stop(1);
        tells(x, 0, 1, 0, 0, 1, 1);
        tells(x, 1, 0, 0, 0, 0, 1);
        Check.refused("stop again", Check.STATE, () -> stop(x, 1));
        for (int unit = 0; unit < 19; unit++) {
            x.unit(0, unit);
        }
        Check.refused("a drill that is stopped frees no units of others", Check.STATE, () -> stop(x, 1));
        tells(x, 0, 1, 0, 0, 20, 1);
        x.stop(0);
        tells(x, 0, 0, 0, 0, 0, 1);
        Check.refused("stop again", Check.STATE, () -> stop(x, 0));
    }

    // "A REAL CALL frees a unit that drills at once; the drill goes on without it."
    private static void realCallAtOnce() {
        DrillRows x = Check.drilling("e1@0p0f1;e2@1p0;");
        x.unit(0, 3);
        Check.same("real", x.real(3), 0);
        tells(x, 0, 1, 0, 0, 0, 1);
        Check.same("its fault stays on", x.fault(0, 1) ? 1 : 0, 1);
        x.unit(0, 3);
        tells(x, 0, 1, 0, 0, 1, 1);
        Check.same("in the same second", x.real(3), 0);
        Check.same("did not drill", x.real(3), -1);
        Check.same("an act", x.act(0, 1), 0);
        Check.same("an event", x.tick(1), 1);
        tells(x, 0, 1, 0, 1, 0, 2);
    }

    // act: "UnsupportedOperationException: it had 60 acts"; drill: "2 acts"
    private static void noActAndSixtyActs() {
        DrillRows x = Check.drilling("e1>19+0~9p0;e2@0p0;a1e2>18<9w1;a2e2>17<9w1;");
        for (int i = 0; i < 59; i++) {
            Check.same("acts", x.drill(0, 2), i);
            Check.same("act", x.act(0, 0), 0);
        }
        Check.same("the 60th counts", x.act(0, 17), 0);
        Check.same("met by it", x.aim(0, 2), 1);
        Check.same("60 acts", x.drill(0, 2), 60);
        Check.refused("the 61st", Check.ROOM, () -> x.act(0, 19));
        Check.refused("an act that an aim waits for", Check.ROOM, () -> x.act(0, 18));
        Check.same("it began nothing", x.event(0, 1, 0), -1);
        Check.same("it met nothing", x.aim(0, 1), 0);
        Check.same("60 acts still", x.drill(0, 2), 60);
        x.tick(1);
        Check.refused("a second behind", Check.ROOM, () -> x.act(0, 0));
        Check.same("its events begin still", x.tick(8), 1);
    }

    // act: "it had 60 acts": each drill has its own
    private static void sixtyActsOfEachDrill() {
        DrillRows x = Check.drilling("e1@0p0;a1e1>5<9w1;");
        x.begin();
        for (int i = 0; i < 60; i++) {
            x.act(0, 4);
        }
        Check.refused("drill 0 is full", Check.ROOM, () -> x.act(0, 5));
        Check.same("drill 1 is not", x.act(1, 5), 0);
        tells(x, 0, 1, 0, 60, 0, 1);
        tells(x, 1, 1, 0, 1, 0, 1);
        Check.same("met in drill 1 alone", x.aim(0, 1) * 10 + x.aim(1, 1), 1);
        Check.same("a new drill has none", x.begin(), 2);
        tells(x, 2, 1, 0, 0, 0, 1);
    }

    // play: "(as of act()). Likewise."
    private static void sixtyPlays() {
        DrillRows x = Check.drilling("e1>0+0~9p0;");
        for (int i = 0; i < 59; i++) {
            x.act(0, 1);
        }
        Check.same("seed 0 plays act 0, the 60th", x.play(0, 0), 1);
        tells(x, 0, 1, 0, 60, 0, 1);
        Check.refused("the 61st", Check.ROOM, () -> x.play(0, 0));
        tells(x, 0, 1, 0, 60, 0, 1);
    }

    // "An event BEGINS once, at its second by the script"
    private static void eventBeginsOnce() {
        DrillRows x = Check.drilling("e1>1+0~5p0;e2@2p0;e3>1+3~9p0;");
        x.tick(1);
        Check.same("by the first act", x.act(0, 1), 1);
        Check.same("not by the second", x.act(0, 1), 0);
        Check.same("at its second", x.tick(1), 1);
        Check.same("not by a later act", x.act(0, 1), 0);
        Check.same("the delay behind the first act", x.tick(2), 1);
        Check.same("neither at the latest second", x.tick(10), 0);
        Check.same("nor by an act behind it", x.act(0, 1), 0);
        tells(x, 0, 1, 0, 4, 0, 3);
        Check.same("event 1", x.event(0, 1, 0), 1);
        Check.same("event 3", x.event(0, 3, 0), 4);
    }

    // "one that is due at the second of an act (delay 0) begins at once, in that call"
    private static void eventBeginsInTheCallOfItsAct() {
        DrillRows x = Check.drilling("e1>6+0~50p0f1;e2>6+1~50p0f2;");
        x.tick(49);
        Check.same("delay 0", x.act(0, 6), 1);
        Check.same("its second", x.event(0, 1, 0), 49);
        Check.same("its fault", x.fault(0, 1) ? 1 : 0, 1);
        Check.same("delay 1 not in that call", x.event(0, 2, 0), -1);
        Check.same("no fault yet", x.fault(0, 2) ? 1 : 0, 0);
        Check.same("a second behind", x.tick(1), 1);
        Check.same("its second", x.event(0, 2, 0), 50);
    }

    // "it begins the delay behind the first such act"
    private static void eventBeginsTheDelayBehindItsFirstAct() {
        DrillRows x = Check.drilling("e1>6+5~50p0;");
        x.tick(3);
        x.act(0, 5);
        x.tick(1);
        x.act(0, 6);
        x.tick(1);
        x.act(0, 6);
        Check.same("a second ahead", x.tick(3), 0);
        Check.same("at it", x.tick(1), 1);
        Check.same("when", x.event(0, 1, 0), 9);
    }

    // "but at that second when it has not begun by then"
    private static void eventBeginsAtItsLatestSecond() {
        DrillRows x = Check.drilling("e1>1+4~9p0;e2>1+5~9p0;e3>1+6~9p0;e4>2+0~9p0;e5>3+0~9p0;");
        x.tick(4);
        x.act(0, 1);
        Check.same("a second ahead of the latest", x.tick(4), 1);
        Check.same("a delay that ends ahead of it", x.event(0, 1, 0), 8);
        Check.same("an act ahead of it", x.act(0, 2), 1);
        Check.same("the latest second", x.tick(1), 3);
        Check.same("a delay that ends at it", x.event(0, 2, 0), 9);
        Check.same("a delay that ends behind it", x.event(0, 3, 0), 9);
        Check.same("no act", x.event(0, 5, 0), 9);
        Check.same("an act at it comes too late", x.act(0, 3), 0);
        Check.same("begun by the act", x.event(0, 4, 0), 8);
    }

    // "An event BEGINS once, at its second by the script": also when a tick goes on beyond it
    private static void eventBeginsAtItsOwnSecondWithinATick() {
        DrillRows x = Check.with("e1@1p0;e2@4999p0;e3>1+7~5000p0;e4>2+7~4000p0;e5@5001p0;");
        x.tick(100);
        x.begin();
        x.act(0, 1);
        Check.same("in one tick", x.tick(5000), 4);
        Check.same("second 1", x.event(0, 1, 0), 1);
        Check.same("second 4,999", x.event(0, 2, 0), 4999);
        Check.same("the delay behind the act", x.event(0, 3, 0), 7);
        Check.same("the latest second", x.event(0, 4, 0), 4000);
        Check.same("not yet", x.event(0, 5, 0), -1);
    }

    // "from their begin on, until they are STOPPED"; "An ACT is done in a drill that is on."
    private static void noEventBeginsBehindTheStop() {
        DrillRows x = Check.drilling("e1@5p0;e2@6p0;e3>1+0~9p0;");
        x.tick(5);
        x.stop(0);
        Check.refused("an act", Check.STATE, () -> x.act(0, 1));
        Check.refused("a play", Check.STATE, () -> x.play(0, 1));
        Check.same("no event", x.tick(50), 0);
        tells(x, 0, 0, 0, 0, 0, 1);
        Check.same("begun ahead of the stop", x.event(0, 1, 0), 5);
        Check.same("not begun", x.event(0, 2, 0), -1);
        Check.same("not begun", x.event(0, 3, 0), -1);
    }

    // "of one second events begin by drills, then by numbers": all of them, in all drills that are on
    private static void eventsOfOneSecondInAllDrills() {
        DrillRows x = Check.with("e9@2p0;e3@2p0;e40>1+0~2p0;");
        for (int i = 0; i < 8; i++) {
            x.begin();
        }
        x.stop(4);
        x.act(3, 1);
        Check.same("two or three of each of seven", x.tick(2), 20);
        for (int i = 0; i < 8; i++) {
            Check.same("begun in " + i, x.drill(i, 4), i == 4 ? 0 : 3);
            Check.same("the lowest number first", x.seen(i, 0, 0), i == 4 ? -1 : 3);
            Check.same("then the next", x.seen(i, 0, 1), i == 4 ? -1 : 9);
            Check.same("then the highest", x.seen(i, 0, 2), i == 4 ? -1 : 40);
        }
    }

    // "A FAULT of an event that has begun is ON in its drill until the drill is stopped."
    private static void faultsUntilTheStop() {
        DrillRows x = Check.drilling("e1@2p0f1;e2@3p0f1;e3@3p0!f9;");
        x.begin();
        x.tick(1);
        Check.same("a second ahead", x.fault(0, 1) ? 1 : 0, 0);
        x.tick(1);
        Check.same("at its begin", x.fault(0, 1) ? 1 : 0, 1);
        Check.same("another is not", x.fault(0, 9) ? 1 : 0, 0);
        x.tick(1);
        Check.same("of a secret event", x.fault(0, 9) ? 1 : 0, 1);
        x.tick(5000);
        Check.same("still on", x.fault(0, 1) ? 1 : 0, 1);
        x.stop(0);
        Check.same("off", x.fault(0, 1) ? 1 : 0, 0);
        Check.same("off", x.fault(0, 9) ? 1 : 0, 0);
        Check.same("on in its own drill", x.fault(1, 1) ? 1 : 0, 1);
    }
}
