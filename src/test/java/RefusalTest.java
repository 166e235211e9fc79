/**
 * "Refusals: unknown numbers IllegalArgumentException, outside of a range IndexOutOfBoundsException,
 * not in this state IllegalStateException, no room UnsupportedOperationException; the first of these
 * that is so; then, where it is told, ArithmeticException."
 *
 * Every refused call is made on an object of its own, twice; then that object must tell the same story
 * as its twin, on which the call was never made.
 */
public final class RefusalTest {
    private static final int[] NO_DRILL = {-1, 3, 4, 7, 8, 9, Integer.MIN_VALUE, Integer.MAX_VALUE};
    private static final int[] EDGES = {Integer.MIN_VALUE, Integer.MAX_VALUE};

    interface Made {
        DrillRows make();
    }

    interface Refused {
        void call(DrillRows x);
    }

    public static void main(String[] args) {
        storiesDiffer();
        unknownDrills();
        drillsOfANewObject();
        unknownUnits();
        unknownActs();
        unknownEventsAndAims();
        unknownPartsAndFaults();
        unknownWhats();
        unknownRows();
        outsideOfARange();
        notInThisState();
        noRoom();
        noAims();
        unknownAheadOfRange();
        unknownAheadOfState();
        unknownAheadOfRoom();
        unknownAheadOfNoAims();
        rangeAheadOfRoom();
        stateAheadOfRoom();
        refusedRead();
        Check.end();
    }

    private static void refused(String what, Class<?> due, Made made, Refused call) {
        DrillRows x = made.make();
        for (int i = 0; i < 2; i++) {
            Check.refused(what, due, () -> {
                call.call(x);
                return 0;
            });
        }
        String told = story(x);
        String twin = story(made.make());
        if (!told.equals(twin)) {
            Check.report(what + " was refused and changed\n  " + twin + "\n  to\n  " + told);
        }
    }

    /** Drill 0 is on, drill 1 stopped, drill 2 without aims; a text is half on the tape. */
    private static DrillRows ordinary() {
        DrillRows x = Check.drilling("e1@0p1f2;e2@5p2!f3;e40>4+3~20p0;a1e1>7<9w2;a2e40>7<4w3;a20e2>1<9w5;");
        x.tick(2);
        x.begin();
        Check.read(x, "e1@1p0;e3@4p9!;");
        x.begin();
        x.unit(0, 0);
        x.unit(0, 19);
        x.unit(2, 7);
        x.act(0, 7);
        x.act(1, 4);
        x.stop(1);
        x.observe(0, 1, 3);
        x.tick(1);
        x.observe(2, 0, 8);
        Check.sign(x, "e5@7p7;e6");
        return x;
    }

    private static DrillRows fullTape() {
        DrillRows x = ordinary();
        Check.sign(x, "@0p0;" + " ".repeat(286));
        return x;
    }

    private static DrillRows eightDrills() {
        DrillRows x = ordinary();
        for (int i = 3; i < 8; i++) {
            x.begin();
        }
        return x;
    }

    private static DrillRows eightDrillsWithoutEvents() {
        DrillRows x = new DrillRows();
        Check.read(x, "e1@1p0;e40>0+0~9p0;a1e1>0<9w1;");
        for (int i = 0; i < 8; i++) {
            x.begin();
        }
        x.read();
        return x;
    }

    private static DrillRows sixtyActs() {
        DrillRows x = ordinary();
        for (int i = x.drill(0, 2); i < 60; i++) {
            x.act(0, 5);
        }
        return x;
    }

    private static DrillRows sixtyActsAndStopped() {
        DrillRows x = sixtyActs();
        x.stop(0);
        return x;
    }

    private static DrillRows hundredRows() {
        DrillRows x = ordinary();
        for (int i = 2; i < 100; i++) {
            x.observe(0, 2, 2);
        }
        return x;
    }

    private static DrillRows lastSecond() {
        DrillRows x = ordinary();
        for (int i = 0; i < 19; i++) {
            x.tick(5000);
        }
        x.tick(4996);
        return x;
    }

    private static String answer(Check.Call call) {
        try {
            return call.answer() + " ";
        } catch (RuntimeException e) {
            return e.getClass().getSimpleName() + " ";
        }
    }

    /** All that an object shows, then what it does next: with what setting up takes, below 512 calls. */
    private static String story(DrillRows x) {
        StringBuilder told = new StringBuilder("place ").append(answer(x::place));
        for (int drill = 0; drill < 4; drill++) {
            told.append("drill ").append(ofDrill(x, drill));
        }
        told.append("last drills ").append(answer(() -> x.drill(7, 1))).append(answer(() -> x.drill(8, 0)));
        for (int i : new int[] {0, 1, 2, 99, 100}) {
            for (int what = 0; what < 4; what++) {
                int each = what;
                told.append(answer(() -> x.row(i, each)));
            }
        }
        told.append("tick ").append(answer(() -> x.tick(1))).append(answer(() -> x.act(0, 4)));
        told.append(answer(() -> x.tick(3))).append(answer(() -> x.tick(9)));
        for (int drill = 0; drill < 3; drill++) {
            told.append("drill ").append(ofDrill(x, drill));
        }
        told.append("units ");
        for (int unit = 0; unit < 20; unit++) {
            int each = unit;
            told.append(answer(() -> x.real(each)));
        }
        told.append("begin ").append(answer(x::begin)).append(answer(() -> x.drill(3, 1)));
        told.append("observe ").append(answer(() -> x.observe(0, 0, 0)));
        told.append("tape ").append(answer(() -> x.sign(' ', 1))).append(answer(x::read)).append(answer(x::place));
        return told.append("begin ").append(answer(x::begin)).append(answer(() -> x.event(4, 5, 1))).toString();
    }

    private static String ofDrill(DrillRows x, int drill) {
        StringBuilder told = new StringBuilder();
        for (int what = 0; what < 5; what++) {
            int each = what;
            told.append(answer(() -> x.drill(drill, each)));
        }
        for (int number : new int[] {1, 2, 3, 40}) {
            told.append(answer(() -> x.event(drill, number, 0))).append(answer(() -> x.event(drill, number, 1)));
        }
        for (int i = 0; i < 3; i++) {
            int each = i;
            told.append(answer(() -> x.seen(drill, 2, each)));
        }
        told.append(answer(() -> x.fault(drill, 2) ? 1 : 0)).append(answer(() -> x.fault(drill, 3) ? 1 : 0));
        for (int number : new int[] {1, 2, 20}) {
            told.append(answer(() -> x.aim(drill, number)));
        }
        told.append(answer(() -> x.score(drill, 0))).append(answer(() -> x.score(drill, 1)));
        return told.append(answer(() -> x.compare(0, drill))).toString();
    }

    /** A story is worth comparing only if it tells what a call that is not refused has changed. */
    private static void storiesDiffer() {
        Refused[] changes = {
            x -> x.sign(' ', 1), x -> x.read(), x -> x.begin(), x -> x.stop(0), x -> x.stop(2), x -> x.unit(0, 3),
            x -> x.unit(2, 18), x -> x.real(7), x -> x.act(0, 4), x -> x.act(2, 0), x -> x.tick(1),
            x -> x.observe(0, 0, 0), x -> x.play(0, 0),
        };
        String twin = story(ordinary());
        for (int i = 0; i < changes.length; i++) {
            DrillRows x = ordinary();
            try {
                changes[i].call(x);
            } catch (IllegalStateException e) {
                // Only read is refused here, and even so it uses the tape up and has a place.
                Check.same("the change that is refused", i, 1);
            }
            if (story(x).equals(twin)) {
                Check.report("the story does not tell change " + i);
            }
        }
    }

    private static void unknownDrills() {
        for (int drill : NO_DRILL) {
            unknownDrill(RefusalTest::ordinary, drill);
        }
        unknownDrill(RefusalTest::eightDrills, 8);
        unknownDrill(RefusalTest::eightDrills, -1);
    }

    private static void drillsOfANewObject() {
        for (int drill : new int[] {0, 1, 7, 8, -1}) {
            unknownDrill(DrillRows::new, drill);
        }
        refused("row(0, 0) of a new object", Check.UNKNOWN, DrillRows::new, x -> x.row(0, 0));
        refused("begin() of a new object", Check.STATE, DrillRows::new, DrillRows::begin);
    }

    private static void unknownDrill(Made made, int drill) {
        String named = "(" + drill + ", ..)";
        refused("stop" + named, Check.UNKNOWN, made, x -> x.stop(drill));
        refused("unit" + named, Check.UNKNOWN, made, x -> x.unit(drill, 5));
        refused("act" + named, Check.UNKNOWN, made, x -> x.act(drill, 4));
        refused("event" + named, Check.UNKNOWN, made, x -> x.event(drill, 1, 0));
        refused("seen" + named, Check.UNKNOWN, made, x -> x.seen(drill, 0, 0));
        refused("fault" + named, Check.UNKNOWN, made, x -> x.fault(drill, 2));
        refused("aim" + named, Check.UNKNOWN, made, x -> x.aim(drill, 1));
        refused("score" + named, Check.UNKNOWN, made, x -> x.score(drill, 0));
        refused("compare" + named, Check.UNKNOWN, made, x -> x.compare(drill, 0));
        refused("compare(0, " + drill + ")", Check.UNKNOWN, made, x -> x.compare(0, drill));
        refused("observe" + named, Check.UNKNOWN, made, x -> x.observe(drill, 0, 0));
        refused("play" + named, Check.UNKNOWN, made, x -> x.play(drill, 0));
        refused("drill" + named, Check.UNKNOWN, made, x -> x.drill(drill, 0));
    }

    private static void unknownUnits() {
        for (int unit : new int[] {-1, 20, 21, EDGES[0], EDGES[1]}) {
            refused("unit(0, " + unit + ")", Check.UNKNOWN, RefusalTest::ordinary, x -> x.unit(0, unit));
            refused("real(" + unit + ")", Check.UNKNOWN, RefusalTest::ordinary, x -> x.real(unit));
        }
    }

    private static void unknownActs() {
        for (int act : new int[] {-1, 20, 21, EDGES[0], EDGES[1]}) {
            refused("act(0, " + act + ")", Check.UNKNOWN, RefusalTest::ordinary, x -> x.act(0, act));
        }
    }

    private static void unknownEventsAndAims() {
        for (int number : new int[] {-1, 0, 3, 39, 41, EDGES[0], EDGES[1]}) {
            refused("event(0, " + number + ", 0)", Check.UNKNOWN, RefusalTest::ordinary, x -> x.event(0, number, 0));
            refused("aim(0, " + number + ")", Check.UNKNOWN, RefusalTest::ordinary, x -> x.aim(0, number));
        }
        refused("aim(0, 21)", Check.UNKNOWN, RefusalTest::ordinary, x -> x.aim(0, 21));
        refused("an aim of a drill without aims", Check.UNKNOWN, RefusalTest::ordinary, x -> x.aim(2, 1));
        refused("an event of another drill", Check.UNKNOWN, RefusalTest::ordinary, x -> x.event(2, 2, 0));
    }

    private static void unknownPartsAndFaults() {
        for (int number : new int[] {-1, 10, 11, EDGES[0], EDGES[1]}) {
            refused("seen(0, " + number + ", 0)", Check.UNKNOWN, RefusalTest::ordinary, x -> x.seen(0, number, 0));
            refused("fault(0, " + number + ")", Check.UNKNOWN, RefusalTest::ordinary, x -> x.fault(0, number));
        }
        refused("fault(0, 0)", Check.UNKNOWN, RefusalTest::ordinary, x -> x.fault(0, 0));
        refused("fault(1, 0)", Check.UNKNOWN, RefusalTest::ordinary, x -> x.fault(1, 0));
    }

    private static void unknownWhats() {
        for (int what : new int[] {-1, 5, 6, EDGES[0], EDGES[1]}) {
            refused("event(0, 1, " + what + ")", Check.UNKNOWN, RefusalTest::ordinary, x -> x.event(0, 1, what));
            refused("score(0, " + what + ")", Check.UNKNOWN, RefusalTest::ordinary, x -> x.score(0, what));
            refused("row(0, " + what + ")", Check.UNKNOWN, RefusalTest::ordinary, x -> x.row(0, what));
            refused("drill(0, " + what + ")", Check.UNKNOWN, RefusalTest::ordinary, x -> x.drill(0, what));
        }
        refused("event(0, 1, 4)", Check.UNKNOWN, RefusalTest::ordinary, x -> x.event(0, 1, 4));
        refused("score(0, 2)", Check.UNKNOWN, RefusalTest::ordinary, x -> x.score(0, 2));
        refused("row(0, 4)", Check.UNKNOWN, RefusalTest::ordinary, x -> x.row(0, 4));
    }

    private static void unknownRows() {
        for (int i : new int[] {-1, 2, 99, 100, 1 << 30, EDGES[0], EDGES[1]}) {
            refused("row(" + i + ", 0)", Check.UNKNOWN, RefusalTest::ordinary, x -> x.row(i, 0));
        }
        refused("row(100, 0) of 100", Check.UNKNOWN, RefusalTest::hundredRows, x -> x.row(100, 0));
    }

    private static void outsideOfARange() {
        for (int n : new int[] {0, -1, 9, EDGES[0], EDGES[1]}) {
            refused("sign(0, " + n + ")", Check.OUTSIDE, RefusalTest::ordinary, x -> x.sign(0, n));
        }
        for (int seconds : new int[] {0, -1, 5001, EDGES[0], EDGES[1]}) {
            refused("tick(" + seconds + ")", Check.OUTSIDE, RefusalTest::ordinary, x -> x.tick(seconds));
        }
        for (int seconds : new int[] {1, 5000}) {
            refused("tick(" + seconds + ") beyond", Check.OUTSIDE, RefusalTest::lastSecond, x -> x.tick(seconds));
        }
        for (int i : new int[] {-1, EDGES[0]}) {
            refused("seen(0, 0, " + i + ")", Check.OUTSIDE, RefusalTest::ordinary, x -> x.seen(0, 0, i));
        }
        for (int second : new int[] {-1, 4, EDGES[0], EDGES[1]}) {
            refused("observe(0, " + second + ", 0)", Check.OUTSIDE, RefusalTest::ordinary, x -> x.observe(0, second, 0));
        }
        refused("observe(2, 2, 0)", Check.OUTSIDE, RefusalTest::ordinary, x -> x.observe(2, 2, 0));
        for (int mark : new int[] {-1, 10, EDGES[0], EDGES[1]}) {
            refused("observe(0, 0, " + mark + ")", Check.OUTSIDE, RefusalTest::ordinary, x -> x.observe(0, 0, mark));
        }
    }

    private static void notInThisState() {
        refused("stop of a stopped drill", Check.STATE, RefusalTest::ordinary, x -> x.stop(1));
        refused("a unit for a stopped drill", Check.STATE, RefusalTest::ordinary, x -> x.unit(1, 5));
        refused("a unit that drills, for a stopped drill", Check.STATE, RefusalTest::ordinary, x -> x.unit(1, 0));
        refused("a unit that drills here", Check.STATE, RefusalTest::ordinary, x -> x.unit(0, 0));
        refused("a unit that drills elsewhere", Check.STATE, RefusalTest::ordinary, x -> x.unit(2, 19));
        refused("an act in a stopped drill", Check.STATE, RefusalTest::ordinary, x -> x.act(1, 4));
        refused("a play in a stopped drill", Check.STATE, RefusalTest::ordinary, x -> x.play(1, 4));
        refused("begin without events", Check.STATE, DrillRows::new, DrillRows::begin);
    }

    private static void noRoom() {
        for (int n = 1; n <= 8; n++) {
            int each = n;
            refused("sign of " + n + " on a full tape", Check.ROOM, RefusalTest::fullTape, x -> x.sign(0, each));
        }
        refused("a ninth drill", Check.ROOM, RefusalTest::eightDrills, DrillRows::begin);
        for (int act = 0; act < 20; act++) {
            int each = act;
            refused("a 61st act " + act, Check.ROOM, RefusalTest::sixtyActs, x -> x.act(0, each));
        }
        refused("a 61st act by a seed", Check.ROOM, RefusalTest::sixtyActs, x -> x.play(0, 1));
        refused("a 101st row", Check.ROOM, RefusalTest::hundredRows, x -> x.observe(0, 0, 0));
        refused("a 101st row of another drill", Check.ROOM, RefusalTest::hundredRows, x -> x.observe(2, 0, 0));
    }

    private static void noAims() {
        refused("the upper number", Check.NO_SCORE, RefusalTest::ordinary, x -> x.score(2, 0));
        refused("the lower number", Check.NO_SCORE, RefusalTest::ordinary, x -> x.score(2, 1));
    }

    private static void unknownAheadOfRange() {
        refused("seen: part and i", Check.UNKNOWN, RefusalTest::ordinary, x -> x.seen(0, 10, -1));
        refused("seen: drill and i", Check.UNKNOWN, RefusalTest::ordinary, x -> x.seen(3, 0, -1));
        refused("observe: drill and second", Check.UNKNOWN, RefusalTest::ordinary, x -> x.observe(3, -1, 0));
        refused("observe: drill and mark", Check.UNKNOWN, RefusalTest::ordinary, x -> x.observe(-1, 0, 10));
        refused("observe: drill, second and mark", Check.UNKNOWN, RefusalTest::ordinary, x -> x.observe(8, 4, -1));
    }

    private static void unknownAheadOfState() {
        refused("unit: the unit, and the drill is stopped", Check.UNKNOWN, RefusalTest::ordinary, x -> x.unit(1, 20));
        refused("unit: the unit, and the drill is stopped", Check.UNKNOWN, RefusalTest::ordinary, x -> x.unit(1, -1));
        refused("unit: the drill, and the unit drills", Check.UNKNOWN, RefusalTest::ordinary, x -> x.unit(3, 0));
        refused("act: the act, and the drill is stopped", Check.UNKNOWN, RefusalTest::ordinary, x -> x.act(1, 20));
        refused("act: the act, and the drill is stopped", Check.UNKNOWN, RefusalTest::ordinary, x -> x.act(1, -1));
    }

    private static void unknownAheadOfRoom() {
        refused("act: the act, and 60 acts", Check.UNKNOWN, RefusalTest::sixtyActs, x -> x.act(0, 20));
        refused("act: the act, and 60 acts", Check.UNKNOWN, RefusalTest::sixtyActs, x -> x.act(0, -1));
        refused("act: the act, 60 acts, stopped", Check.UNKNOWN, RefusalTest::sixtyActsAndStopped, x -> x.act(0, 20));
        refused("observe: the drill, and 100 rows", Check.UNKNOWN, RefusalTest::hundredRows, x -> x.observe(3, 0, 0));
        refused("observe: the drill, the mark, 100", Check.UNKNOWN, RefusalTest::hundredRows, x -> x.observe(3, 0, 10));
    }

    private static void unknownAheadOfNoAims() {
        refused("score: the what, and no aims", Check.UNKNOWN, RefusalTest::ordinary, x -> x.score(2, 2));
        refused("score: the what, and no aims", Check.UNKNOWN, RefusalTest::ordinary, x -> x.score(2, -1));
    }

    private static void rangeAheadOfRoom() {
        refused("sign: n above 8, and a full tape", Check.OUTSIDE, RefusalTest::fullTape, x -> x.sign(0, 9));
        refused("sign: n of 0, and a full tape", Check.OUTSIDE, RefusalTest::fullTape, x -> x.sign(0, 0));
        refused("sign: n below 0, and a full tape", Check.OUTSIDE, RefusalTest::fullTape, x -> x.sign(0, -1));
        refused("observe: to come, and 100 rows", Check.OUTSIDE, RefusalTest::hundredRows, x -> x.observe(0, 4, 0));
        refused("observe: below 0, and 100 rows", Check.OUTSIDE, RefusalTest::hundredRows, x -> x.observe(0, -1, 0));
        refused("observe: the mark, and 100 rows", Check.OUTSIDE, RefusalTest::hundredRows, x -> x.observe(0, 0, 10));
    }

    private static void stateAheadOfRoom() {
        refused("begin: no events, and 8", Check.STATE, RefusalTest::eightDrillsWithoutEvents, DrillRows::begin);
        refused("act: stopped, and 60 acts", Check.STATE, RefusalTest::sixtyActsAndStopped, x -> x.act(0, 4));
        refused("play: stopped, and 60 acts", Check.STATE, RefusalTest::sixtyActsAndStopped, x -> x.play(0, 4));
    }

    /** A read that is refused uses the tape up and has a place; all else is as in the twin. */
    private static void refusedRead() {
        DrillRows x = ordinary();
        Check.refused("read", Check.STATE, x::read);
        Check.same("its place", x.place(), 9);
        Check.same("an empty tape", x.sign(' ', 1), 1);
        Check.sign(x, "e5@7p7;e");
        DrillRows twin = ordinary();
        String told = story(x);
        String due = story(twin);
        String shown = told.substring(told.indexOf("drill"), told.indexOf("tape"));
        if (!shown.equals(due.substring(due.indexOf("drill"), due.indexOf("tape")))) {
            Check.report("a refused read changed\n  " + due + "\n  to\n  " + told);
        }
    }
}
