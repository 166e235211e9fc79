/** Promises 17 and 18: observe, row. */
public final class ObserverTest {
    public static void main(String[] args) {
        rows();
        late();
        stopped();
        observeRefusals();
        hundredRows();
        rowRefusals();
        Check.end();
    }

    private static void tells(DrillRows x, int i, int... due) {
        for (int what = 0; what < due.length; what++) {
            Check.same("row(" + i + ", " + what + ")", x.row(i, what), due[what]);
        }
    }

    private static void rows() {
        DrillRows x = Check.drilling("e1@0p0;");
        x.tick(20);
        x.begin();
        x.tick(5);
        Check.same("observe", x.observe(1, 5, 9), 0);
        Check.same("observe", x.observe(0, 25, 0), 1);
        Check.same("observe", x.observe(1, 0, 3), 2);
        tells(x, 0, 1, 5, 9, 0);
        tells(x, 1, 0, 25, 0, 0);
        tells(x, 2, 1, 0, 3, 0);
    }

    private static void late() {
        DrillRows x = Check.with("e1@0p0;");
        x.tick(1000);
        x.begin();
        x.tick(60);
        x.observe(0, 0, 1);
        x.tick(1);
        x.observe(0, 0, 1);
        x.observe(0, 1, 1);
        tells(x, 0, 0, 0, 1, 0);
        tells(x, 1, 0, 0, 1, 1);
        tells(x, 2, 0, 1, 1, 0);
        x.tick(5000);
        tells(x, 2, 0, 1, 1, 0);
    }

    private static void stopped() {
        DrillRows x = Check.drilling("e1@0p0;");
        x.stop(0);
        x.tick(70);
        Check.same("of a stopped drill", x.observe(0, 70, 2), 0);
        x.observe(0, 9, 2);
        tells(x, 0, 0, 70, 2, 0);
        tells(x, 1, 0, 9, 2, 1);
    }

    private static void observeRefusals() {
        DrillRows x = Check.drilling("e1@0p0;");
        x.tick(30);
        x.begin();
        x.tick(3);
        Check.refused("to come", Check.OUTSIDE, () -> x.observe(0, 34, 5));
        Check.refused("to come in this drill", Check.OUTSIDE, () -> x.observe(1, 4, 5));
        Check.refused("far to come", Check.OUTSIDE, () -> x.observe(0, Integer.MAX_VALUE, 5));
        Check.refused("below 0", Check.OUTSIDE, () -> x.observe(0, -1, 5));
        Check.refused("far below 0", Check.OUTSIDE, () -> x.observe(0, Integer.MIN_VALUE, 5));
        Check.refused("mark 10", Check.OUTSIDE, () -> x.observe(0, 1, 10));
        Check.refused("mark -1", Check.OUTSIDE, () -> x.observe(0, 1, -1));
        for (int drill : new int[] {2, -1, 8, Integer.MIN_VALUE, Integer.MAX_VALUE}) {
            Check.refused("drill " + drill, Check.UNKNOWN, () -> x.observe(drill, 0, 0));
            Check.refused("drill first " + drill, Check.UNKNOWN, () -> x.observe(drill, -1, 10));
        }
        Check.same("no row was made", x.observe(0, 0, 0), 0);
    }

    private static void hundredRows() {
        DrillRows x = Check.drilling("e1@0p0;");
        x.begin();
        for (int i = 0; i < 100; i++) {
            Check.same("observe", x.observe(i % 2, 0, i % 10), i);
        }
        Check.refused("row 101", Check.ROOM, () -> x.observe(0, 0, 0));
        Check.refused("the mark ahead of the room", Check.OUTSIDE, () -> x.observe(0, 0, 10));
        Check.refused("the drill ahead of the room", Check.UNKNOWN, () -> x.observe(2, 0, 0));
        for (int i = 0; i < 100; i++) {
            tells(x, i, i % 2, 0, i % 10, 0);
        }
        Check.refused("row 100", Check.UNKNOWN, () -> x.row(100, 0));
    }

    private static void rowRefusals() {
        DrillRows x = Check.drilling("e1@0p0;");
        Check.refused("no rows", Check.UNKNOWN, () -> x.row(0, 0));
        x.observe(0, 0, 0);
        for (int other : new int[] {-1, 4, Integer.MIN_VALUE, Integer.MAX_VALUE}) {
            Check.refused("row " + other, Check.UNKNOWN, () -> x.row(other, 0));
            Check.refused("what " + other, Check.UNKNOWN, () -> x.row(0, other));
        }
        Check.refused("row 1", Check.UNKNOWN, () -> x.row(1, 0));
    }
}
