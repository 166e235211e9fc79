/** Promises 5 to 8 and 20: begin, stop, unit, real, drill. */
public final class DrillTest {
    private static final int[] FAR = {-1, 8, 9, Integer.MIN_VALUE, Integer.MAX_VALUE};

    public static void main(String[] args) {
        begins();
        beginsLater();
        eightDrills();
        keepsItsScript();
        stops();
        units();
        unitRefusals();
        realCalls();
        drillRefusals();
        Check.end();
    }

    private static void tells(DrillRows x, int drill, int... due) {
        for (int what = 0; what < due.length; what++) {
            Check.same("drill(" + drill + ", " + what + ")", x.drill(drill, what), due[what]);
        }
    }

    private static void begins() {
        DrillRows x = Check.with("e1@0p0;e2>3+5~0p0;e3>3+0~1p0;e4@1p0;");
        Check.same("begin", x.begin(), 0);
        tells(x, 0, 1, 0, 0, 0, 2);
        Check.same("due at 0", x.event(0, 1, 0), 0);
        Check.same("latest 0", x.event(0, 2, 0), 0);
        Check.same("not yet", x.event(0, 3, 0), -1);
        Check.same("not yet", x.event(0, 4, 0), -1);
    }

    private static void beginsLater() {
        DrillRows x = Check.with("e1@0p0;e2@2p0;");
        x.tick(100);
        Check.same("begin", x.begin(), 0);
        tells(x, 0, 1, 100, 0, 0, 1);
        Check.same("its own second 1", x.tick(1), 0);
        Check.same("a drill more", x.begin(), 1);
        tells(x, 1, 1, 101, 0, 0, 1);
        Check.same("second 2 of drill 0", x.tick(1), 1);
        Check.same("second 2 of drill 1", x.tick(1), 1);
        Check.same("counted from the begin", x.event(1, 2, 0), 2);
    }

    private static void eightDrills() {
        DrillRows x = Check.with("e1@0p0;");
        for (int i = 0; i < 8; i++) {
            Check.same("begin", x.begin(), i);
        }
        Check.refused("a ninth", Check.ROOM, x::begin);
        x.stop(3);
        Check.refused("a ninth behind a stop", Check.ROOM, x::begin);
        x.read();
        Check.refused("the state ahead of the room", Check.STATE, x::begin);
        tells(x, 7, 1, 0, 0, 0, 1);
    }

    private static void keepsItsScript() {
        DrillRows x = Check.drilling("e1@5p1!f2;a1e1>1<1w2;");
        Check.read(x, "e1@6p3f4;e2@0p0;");
        Check.same("begin by the newer", x.begin(), 1);
        Check.read(x, "e7@7p7;");
        Check.read(x, "e8@8p8;");
        Check.same("begin by the newest", x.begin(), 2);
        Check.same("part of the first", x.event(0, 1, 1), 1);
        Check.same("part of the second", x.event(1, 1, 1), 3);
        Check.refused("event of another script", Check.UNKNOWN, () -> x.event(0, 2, 0));
        Check.refused("event of a script that no drill plays", Check.UNKNOWN, () -> x.event(2, 7, 0));
        Check.same("second 5", x.tick(5), 1);
        Check.same("second 6", x.tick(1), 1);
        Check.same("second 8", x.tick(2), 1);
        Check.same("aim of the first", x.aim(0, 1), 2);
        Check.refused("no aim in the second", Check.UNKNOWN, () -> x.aim(1, 1));
    }

    private static void stops() {
        DrillRows x = Check.drilling("e1@0p0f1;e2@5p0;e3>4+2~50p0;");
        x.begin();
        x.unit(0, 3);
        x.unit(0, 19);
        x.unit(1, 4);
        x.act(0, 4);
        x.stop(0);
        tells(x, 0, 0, 0, 1, 0, 1);
        tells(x, 1, 1, 0, 0, 1, 1);
        Check.same("its units are free", x.real(3), -1);
        Check.same("its units are free", x.real(19), -1);
        Check.same("other units are not", x.real(4), 1);
        Check.same("only the other drill goes on", x.tick(50), 2);
        Check.same("nothing begins in a stopped drill", x.event(0, 3, 0), -1);
        Check.refused("stop again", Check.STATE, () -> stop(x, 0));
        for (int drill : FAR) {
            Check.refused("stop(" + drill + ")", Check.UNKNOWN, () -> stop(x, drill));
        }
        Check.refused("stop(2)", Check.UNKNOWN, () -> stop(x, 2));
    }

    private static long stop(DrillRows x, int drill) {
        x.stop(drill);
        return 0;
    }

    private static long unit(DrillRows x, int drill, int unit) {
        x.unit(drill, unit);
        return 0;
    }

    private static void units() {
        DrillRows x = Check.drilling("e1@0p0;");
        x.begin();
        for (int unit = 0; unit < 20; unit++) {
            x.unit(unit % 2, unit);
        }
        tells(x, 0, 1, 0, 0, 10, 1);
        tells(x, 1, 1, 0, 0, 10, 1);
        x.stop(0);
        for (int unit = 0; unit < 20; unit += 2) {
            x.unit(1, unit);
        }
        tells(x, 1, 1, 0, 0, 20, 1);
    }

    private static void unitRefusals() {
        DrillRows x = Check.drilling("e1@0p0;");
        x.begin();
        x.begin();
        x.unit(0, 5);
        Check.refused("it drills here", Check.STATE, () -> unit(x, 0, 5));
        Check.refused("it drills elsewhere", Check.STATE, () -> unit(x, 1, 5));
        x.stop(2);
        Check.refused("a stopped drill", Check.STATE, () -> unit(x, 2, 6));
        Check.refused("an unknown unit of a stopped drill", Check.UNKNOWN, () -> unit(x, 2, 20));
        Check.refused("unit 20", Check.UNKNOWN, () -> unit(x, 0, 20));
        Check.refused("unit -1", Check.UNKNOWN, () -> unit(x, 0, -1));
        Check.refused("drill 3", Check.UNKNOWN, () -> unit(x, 3, 5));
        for (int drill : FAR) {
            Check.refused("unit(" + drill + ", 1)", Check.UNKNOWN, () -> unit(x, drill, 1));
        }
        tells(x, 0, 1, 0, 0, 1, 1);
    }

    private static void realCalls() {
        DrillRows x = Check.drilling("e1@0p0;e2@1p0;");
        x.begin();
        x.unit(1, 0);
        x.unit(1, 19);
        Check.same("freed", x.real(19), 1);
        Check.same("free already", x.real(19), -1);
        tells(x, 1, 1, 0, 0, 1, 1);
        x.unit(0, 19);
        Check.same("freed from the other", x.real(19), 0);
        x.unit(1, 19);
        Check.same("in the same second again", x.real(19), 1);
        Check.same("freed, the last", x.real(0), 1);
        Check.same("the drill goes on without units", x.tick(1), 2);
        Check.refused("unit 20", Check.UNKNOWN, () -> x.real(20));
        Check.refused("unit -1", Check.UNKNOWN, () -> x.real(-1));
    }

    private static void drillRefusals() {
        DrillRows x = Check.drilling("e1@0p0;");
        for (int drill : FAR) {
            Check.refused("drill(" + drill + ", 0)", Check.UNKNOWN, () -> x.drill(drill, 0));
        }
        Check.refused("drill(1, 0)", Check.UNKNOWN, () -> x.drill(1, 0));
        Check.refused("drill(0, 5)", Check.UNKNOWN, () -> x.drill(0, 5));
        Check.refused("drill(0, -1)", Check.UNKNOWN, () -> x.drill(0, -1));
    }
}
