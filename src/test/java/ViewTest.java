/** Promises 11 to 13: event, seen, fault. */
public final class ViewTest {
    public static void main(String[] args) {
        events();
        eventRefusals();
        seen();
        seenRefusals();
        faults();
        faultRefusals();
        Check.end();
    }

    private static void tells(DrillRows x, int number, int... due) {
        for (int what = 0; what < due.length; what++) {
            Check.same("event(0, " + number + ", " + what + ")", x.event(0, number, what), due[what]);
        }
    }

    private static void events() {
        DrillRows x = Check.with("e40@0p9!f9;e1@3p0;e2>5+1~9p4f1;e3@0p1!;");
        x.tick(10);
        x.begin();
        tells(x, 40, 0, 9, 1, 9);
        tells(x, 1, -1, 0, 0, 0);
        tells(x, 2, -1, 4, 0, 1);
        tells(x, 3, 0, 1, 1, 0);
        x.tick(3);
        x.act(0, 5);
        x.tick(2);
        tells(x, 1, 3, 0, 0, 0);
        tells(x, 2, 4, 4, 0, 1);
        x.stop(0);
        tells(x, 2, 4, 4, 0, 1);
        Check.read(x, "e40@1p2;");
        tells(x, 40, 0, 9, 1, 9);
        x.begin();
        Check.same("nothing of an earlier text stays", x.event(1, 40, 2) + x.event(1, 40, 3), 0);
    }

    private static void eventRefusals() {
        DrillRows x = Check.drilling("e40@0p9;");
        for (int number : new int[] {0, 1, 39, 41, -1, Integer.MIN_VALUE, Integer.MAX_VALUE}) {
            Check.refused("event " + number, Check.UNKNOWN, () -> x.event(0, number, 0));
        }
        Check.refused("what 4", Check.UNKNOWN, () -> x.event(0, 40, 4));
        Check.refused("what -1", Check.UNKNOWN, () -> x.event(0, 40, -1));
        Check.refused("drill 1", Check.UNKNOWN, () -> x.event(1, 40, 0));
        Check.refused("drill -1", Check.UNKNOWN, () -> x.event(-1, 40, 0));
        Check.refused("drill 8", Check.UNKNOWN, () -> x.event(8, 40, 0));
    }

    private static void sees(DrillRows x, int part, int... numbers) {
        for (int i = 0; i < numbers.length; i++) {
            Check.same("seen(0, " + part + ", " + i + ")", x.seen(0, part, i), numbers[i]);
        }
        Check.same("no more for part " + part, x.seen(0, part, numbers.length), -1);
        Check.same("far more for part " + part, x.seen(0, part, Integer.MAX_VALUE), -1);
    }

    private static void seen() {
        DrillRows x = Check.drilling("e40@0p0!;e7@1p9;e2@2p9!;e9@2p0!;e1@3p3;");
        sees(x, 0, 40);
        sees(x, 9);
        x.tick(1);
        sees(x, 0, 7, 40);
        sees(x, 9, 7);
        x.tick(1);
        sees(x, 0, 7, 9, 40);
        sees(x, 9, 2, 7);
        sees(x, 5, 7);
        x.tick(1);
        sees(x, 0, 1, 7, 9, 40);
        sees(x, 5, 1, 7);
        x.stop(0);
        sees(x, 9, 1, 2, 7);
    }

    private static void seenRefusals() {
        DrillRows x = Check.drilling("e1@0p0;");
        Check.refused("part 10", Check.UNKNOWN, () -> x.seen(0, 10, 0));
        Check.refused("part -1", Check.UNKNOWN, () -> x.seen(0, -1, 0));
        Check.refused("drill 1", Check.UNKNOWN, () -> x.seen(1, 0, 0));
        Check.refused("drill -1", Check.UNKNOWN, () -> x.seen(-1, 0, 0));
        Check.refused("below 0", Check.OUTSIDE, () -> x.seen(0, 0, -1));
        Check.refused("far below 0", Check.OUTSIDE, () -> x.seen(0, 0, Integer.MIN_VALUE));
        Check.refused("the part ahead of the range", Check.UNKNOWN, () -> x.seen(0, 10, -1));
        Check.refused("the drill ahead of the range", Check.UNKNOWN, () -> x.seen(1, 0, -1));
    }

    private static void faultsOn(DrillRows x, int drill, int... on) {
        for (int fault = 1; fault <= 9; fault++) {
            int due = 0;
            for (int each : on) {
                due = each == fault ? 1 : due;
            }
            Check.same("fault(" + drill + ", " + fault + ")", x.fault(drill, fault) ? 1 : 0, due);
        }
    }

    private static void faults() {
        DrillRows x = Check.drilling("e1@0p0f9;e2@1p0!f1;e3>3+0~9p0f5;e4@0p0;e5@2p0f9;");
        faultsOn(x, 0, 9);
        x.tick(1);
        faultsOn(x, 0, 1, 9);
        x.begin();
        faultsOn(x, 1, 9);
        x.act(0, 3);
        faultsOn(x, 0, 1, 5, 9);
        faultsOn(x, 1, 9);
        x.stop(0);
        faultsOn(x, 0);
        faultsOn(x, 1, 9);
    }

    private static void faultRefusals() {
        DrillRows x = Check.drilling("e1@0p0;");
        for (int fault : new int[] {0, 10, -1, Integer.MIN_VALUE, Integer.MAX_VALUE}) {
            Check.refused("fault " + fault, Check.UNKNOWN, () -> x.fault(0, fault) ? 1 : 0);
        }
        Check.refused("drill 1", Check.UNKNOWN, () -> x.fault(1, 1) ? 1 : 0);
        Check.refused("drill -1", Check.UNKNOWN, () -> x.fault(-1, 1) ? 1 : 0);
        x.stop(0);
        Check.refused("fault 0 of a stopped drill", Check.UNKNOWN, () -> x.fault(0, 0) ? 1 : 0);
    }
}
