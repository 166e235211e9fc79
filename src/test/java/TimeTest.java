/** Promises 9, 10 and 19: act, tick, play. */
public final class TimeTest {
    public static void main(String[] args) {
        actsBeginEvents();
        delays();
        latest();
        firstActAlone();
        actRefusals();
        sixtyActs();
        ticks();
        tickRefusals();
        lastSecond();
        plays();
        playRefusals();
        Check.end();
    }

    private static void actsBeginEvents() {
        DrillRows x = Check.drilling("e1>4+0~9p0;e2>4+0~9p0;e3>5+0~9p0;e4>4+1~9p0;");
        x.begin();
        x.tick(2);
        Check.same("no event waits for it", x.act(0, 19), 0);
        Check.same("two begin at once", x.act(0, 4), 2);
        Check.same("at the act's second", x.event(0, 1, 0), 2);
        Check.same("not in the other drill", x.event(1, 1, 0), -1);
        Check.same("once", x.act(0, 4), 0);
        Check.same("acts", x.drill(0, 2), 3);
        Check.same("a second behind", x.tick(1), 1);
        Check.same("by another act", x.act(0, 5), 1);
        Check.same("begun", x.drill(0, 4), 4);
    }

    private static void delays() {
        DrillRows x = Check.drilling("e1>0+999~9999p0;e2>19+3~9999p0;");
        x.tick(7);
        x.act(0, 0);
        x.act(0, 19);
        Check.same("a second ahead", x.tick(2), 0);
        Check.same("the delay behind", x.tick(1), 1);
        Check.same("when", x.event(0, 2, 0), 10);
        Check.same("a second ahead", x.tick(995), 0);
        Check.same("the delay behind", x.tick(1), 1);
        Check.same("when", x.event(0, 1, 0), 1006);
    }

    private static void latest() {
        DrillRows x = Check.drilling("e1>0+5~8p0;e2>1+0~8p0;e3>2+9~8p0;");
        x.tick(3);
        x.act(0, 0);
        x.tick(1);
        x.act(0, 2);
        Check.same("all at 8", x.tick(100), 3);
        Check.same("delay and latest alike", x.event(0, 1, 0), 8);
        Check.same("without an act", x.event(0, 2, 0), 8);
        Check.same("a delay beyond the latest", x.event(0, 3, 0), 8);
        Check.same("an act too late", x.act(0, 1), 0);
        Check.same("stays", x.event(0, 2, 0), 8);
    }

    private static void firstActAlone() {
        DrillRows x = Check.drilling("e1>0+5~99p0;");
        x.tick(1);
        x.act(0, 0);
        x.tick(3);
        x.act(0, 0);
        Check.same("five behind the first", x.tick(2), 1);
        Check.same("when", x.event(0, 1, 0), 6);
    }

    private static void actRefusals() {
        DrillRows x = Check.drilling("e1@0p0;");
        x.begin();
        x.stop(1);
        Check.refused("act 20", Check.UNKNOWN, () -> x.act(0, 20));
        Check.refused("act -1", Check.UNKNOWN, () -> x.act(0, -1));
        Check.refused("drill 2", Check.UNKNOWN, () -> x.act(2, 0));
        Check.refused("drill -1", Check.UNKNOWN, () -> x.act(-1, 0));
        Check.refused("drill 8", Check.UNKNOWN, () -> x.act(8, 0));
        Check.refused("a stopped drill", Check.STATE, () -> x.act(1, 0));
        Check.refused("the unknown act ahead of the state", Check.UNKNOWN, () -> x.act(1, 20));
        Check.same("no acts", x.drill(0, 2) + x.drill(1, 2), 0);
    }

    private static void sixtyActs() {
        DrillRows x = Check.drilling("e1>19+0~9p0;");
        for (int i = 0; i < 60; i++) {
            Check.same("an act", x.act(0, i % 19), 0);
        }
        Check.refused("act 61", Check.ROOM, () -> x.act(0, 19));
        Check.same("nothing began", x.event(0, 1, 0), -1);
        Check.refused("the unknown ahead of the room", Check.UNKNOWN, () -> x.act(0, 20));
        x.stop(0);
        Check.refused("the state ahead of the room", Check.STATE, () -> x.act(0, 1));
        Check.same("acts", x.drill(0, 2), 60);
    }

    private static void ticks() {
        DrillRows x = Check.drilling("e1@1p0;e2@4999p0;e3@5000p0;e4@5001p0;e5@9999p0;");
        Check.same("to 5,000", x.tick(5000), 3);
        Check.same("their own seconds", x.event(0, 1, 0), 1);
        Check.same("their own seconds", x.event(0, 2, 0), 4999);
        Check.same("one more", x.tick(1), 1);
        Check.same("ahead of 9,999", x.tick(4997), 0);
        Check.same("9,999", x.tick(1), 1);
        Check.same("none is left", x.tick(5000), 0);
    }

    private static void tickRefusals() {
        DrillRows x = Check.drilling("e1@1p0;");
        for (int seconds : new int[] {0, -1, 5001, Integer.MIN_VALUE, Integer.MAX_VALUE}) {
            Check.refused("tick(" + seconds + ")", Check.OUTSIDE, () -> x.tick(seconds));
        }
        Check.same("no time went on", x.event(0, 1, 0), -1);
        Check.same("second 1", x.tick(1), 1);
    }

    private static void lastSecond() {
        DrillRows x = Check.with("e1@1p0;");
        for (int i = 0; i < 19; i++) {
            x.tick(5000);
        }
        Check.refused("100,000", Check.OUTSIDE, () -> x.tick(5000));
        Check.same("99,998", x.tick(4998), 0);
        Check.same("begin", x.begin(), 0);
        Check.same("its second", x.drill(0, 1), 99_998);
        Check.refused("beyond", Check.OUTSIDE, () -> x.tick(2));
        Check.same("99,999", x.tick(1), 1);
        Check.refused("beyond", Check.OUTSIDE, () -> x.tick(1));
    }

    /** All twenty acts have an event each, so that the event tells which act was played. */
    private static void plays() {
        for (int seed : new int[] {0, 1, 5, -7, 12_345, Integer.MAX_VALUE, Integer.MIN_VALUE, -1}) {
            long x = (seed * 1_103_515_245L + 12_345L) & 0xFFFF_FFFFL;
            int due = (int) ((x >> 16) % 20);
            DrillRows rows = Check.drilling(eventsOfTenActs(0));
            Check.read(rows, eventsOfTenActs(10));
            rows.begin();
            int first = rows.play(0, seed);
            int second = rows.play(1, seed);
            Check.same("events by seed " + seed, first + second, 1);
            Check.same("act by seed " + seed, rows.event(due / 10, due + 1, 0), 0);
            Check.same("acts by seed " + seed, rows.drill(0, 2), 1);
        }
        DrillRows known = Check.drilling("e1>0+0~9p0;e2>18+0~9p0;");
        Check.same("seed 0 plays act 0", known.play(0, 0), 1);
        Check.same("its event", known.event(0, 1, 0), 0);
        Check.same("seed 1 plays act 18", known.play(0, 1), 1);
        Check.same("its event", known.event(0, 2, 0), 0);
    }

    private static String eventsOfTenActs(int first) {
        StringBuilder text = new StringBuilder();
        for (int act = first; act < first + 10; act++) {
            text.append('e').append(act + 1).append('>').append(act).append("+0~9p0;");
        }
        return text.toString();
    }

    private static void playRefusals() {
        DrillRows x = Check.drilling("e1@0p0;");
        x.begin();
        x.stop(1);
        Check.refused("drill 2", Check.UNKNOWN, () -> x.play(2, 1));
        Check.refused("drill -1", Check.UNKNOWN, () -> x.play(-1, 1));
        Check.refused("a stopped drill", Check.STATE, () -> x.play(1, 1));
        for (int i = 0; i < 60; i++) {
            x.play(0, i);
        }
        Check.refused("act 61", Check.ROOM, () -> x.play(0, 1));
    }
}
