/** Promises 14 to 16: aim, score, compare. */
public final class AimTest {
    public static void main(String[] args) {
        met();
        missed();
        actsAheadOfTheEvent();
        actsInTheEventsSecond();
        stopped();
        aimRefusals();
        scores();
        scoreRefusals();
        compares();
        comparesOtherScripts();
        compareRefusals();
        Check.end();
    }

    private static void met() {
        DrillRows x = Check.drilling("e1@5p0;a1e1>7<10w1;a2e1>8<10w1;");
        Check.same("open ahead of the event", x.aim(0, 1), 0);
        x.tick(5);
        Check.same("open at its begin", x.aim(0, 1), 0);
        x.tick(10);
        Check.same("open at the last second", x.aim(0, 1), 0);
        x.act(0, 7);
        Check.same("met at the last second", x.aim(0, 1), 1);
        Check.same("another act's aim is open", x.aim(0, 2), 0);
        x.tick(1);
        Check.same("stays met", x.aim(0, 1), 1);
        Check.same("missed", x.aim(0, 2), 2);
    }

    private static void missed() {
        DrillRows x = Check.drilling("e1@0p0;a20e1>7<1w1;");
        x.tick(1);
        Check.same("open", x.aim(0, 20), 0);
        x.tick(1);
        Check.same("missed", x.aim(0, 20), 2);
        x.act(0, 7);
        Check.same("an act too late", x.aim(0, 20), 2);
    }

    private static void actsAheadOfTheEvent() {
        DrillRows x = Check.drilling("e1@5p0;a1e1>7<3w1;");
        x.tick(4);
        x.act(0, 7);
        x.tick(1);
        Check.same("an act ahead does not count", x.aim(0, 1), 0);
        x.tick(3);
        x.act(0, 7);
        Check.same("a later one does", x.aim(0, 1), 1);
    }

    private static void actsInTheEventsSecond() {
        DrillRows x = Check.drilling("e1>4+0~99p0;a1e1>4<1w1;a2e1>7<1w1;a3e1>8<1w1;");
        x.tick(2);
        x.act(0, 7);
        Check.same("the event has not begun", x.aim(0, 2), 0);
        x.act(0, 4);
        Check.same("by the act that begins it", x.aim(0, 1), 1);
        Check.same("by an act of that second", x.aim(0, 2), 1);
        Check.same("open", x.aim(0, 3), 0);
    }

    private static void stopped() {
        DrillRows x = Check.drilling("e1@0p0;e2@50p0;a1e1>1<99w1;a2e1>2<99w1;a3e2>1<99w1;");
        x.act(0, 1);
        x.stop(0);
        Check.same("met", x.aim(0, 1), 1);
        Check.same("no act came", x.aim(0, 2), 2);
        Check.same("the event has not begun", x.aim(0, 3), 2);
        x.tick(500);
        Check.same("stays met", x.aim(0, 1), 1);
    }

    private static void aimRefusals() {
        DrillRows x = Check.drilling("e1@0p0;a5e1>1<1w1;");
        for (int number : new int[] {0, 1, 4, 6, 20, 21, -1, Integer.MIN_VALUE, Integer.MAX_VALUE}) {
            Check.refused("aim " + number, Check.UNKNOWN, () -> x.aim(0, number));
        }
        Check.refused("drill 1", Check.UNKNOWN, () -> x.aim(1, 5));
        Check.refused("drill -1", Check.UNKNOWN, () -> x.aim(-1, 5));
        Check.refused("drill 8", Check.UNKNOWN, () -> x.aim(8, 5));
    }

    private static void scoreIs(DrillRows x, int drill, int upper, int lower) {
        Check.same("score(" + drill + ", 0)", x.score(drill, 0), upper);
        Check.same("score(" + drill + ", 1)", x.score(drill, 1), lower);
    }

    private static void scores() {
        DrillRows x = Check.drilling("e1@0p0;a1e1>1<9w4;a2e1>2<9w2;a3e1>3<9w9;a4e1>4<9w3;");
        scoreIs(x, 0, 0, 1);
        x.act(0, 1);
        scoreIs(x, 0, 2, 9);
        x.act(0, 2);
        scoreIs(x, 0, 1, 3);
        x.act(0, 3);
        scoreIs(x, 0, 5, 6);
        x.act(0, 4);
        scoreIs(x, 0, 1, 1);
        x.stop(0);
        scoreIs(x, 0, 1, 1);
        DrillRows prime = Check.drilling("e1@0p0;a1e1>1<9w6;a2e1>2<9w7;");
        prime.act(0, 2);
        scoreIs(prime, 0, 7, 13);
        DrillRows outermost = Check.drilling("e1@0p0;a20e1>1<9w5;a1e1>2<9w2;");
        outermost.act(0, 1);
        scoreIs(outermost, 0, 5, 7);
    }

    private static void scoreRefusals() {
        DrillRows x = Check.drilling("e1@0p0;");
        Check.refused("no aims", Check.NO_SCORE, () -> x.score(0, 0));
        Check.refused("no aims", Check.NO_SCORE, () -> x.score(0, 1));
        Check.refused("the unknown what first", Check.UNKNOWN, () -> x.score(0, 2));
        Check.refused("the unknown what first", Check.UNKNOWN, () -> x.score(0, -1));
        Check.refused("drill 1", Check.UNKNOWN, () -> x.score(1, 0));
        Check.refused("drill -1", Check.UNKNOWN, () -> x.score(-1, 0));
        Check.read(x, "e1@0p0;a1e1>1<1w1;");
        x.begin();
        scoreIs(x, 1, 0, 1);
        Check.refused("the first has none still", Check.NO_SCORE, () -> x.score(0, 0));
    }

    private static void compares() {
        DrillRows x = Check.drilling("e1@0p0;e2@9p0;a1e1>1<3w1;a2e1>2<3w1;a3e2>3<3w1;");
        x.begin();
        Check.same("alike", x.compare(0, 1), 0);
        x.act(0, 1);
        Check.same("met and open", x.compare(0, 1), 1);
        x.tick(4);
        Check.same("met and missed", x.compare(1, 0), 1);
        x.stop(1);
        Check.same("open and missed too", x.compare(0, 1), 2);
        Check.same("itself", x.compare(0, 0), 0);
        x.stop(0);
        Check.same("met and missed alone", x.compare(0, 1), 1);
    }

    private static void comparesOtherScripts() {
        DrillRows x = Check.drilling("e1@0p0;a1e1>1<3w1;a2e1>2<3w1;a20e1>1<3w1;");
        Check.read(x, "e5@0p0;a2e5>9<3w9;a3e5>1<3w1;a20e5>9<3w9;");
        x.begin();
        Check.same("alike", x.compare(0, 1), 0);
        x.act(0, 1);
        Check.same("only numbers of both", x.compare(0, 1), 1);
        x.act(1, 9);
        Check.same("by their states alone", x.compare(1, 0), 1);
        x.act(0, 2);
        Check.same("all alike", x.compare(0, 1), 0);
    }

    private static void compareRefusals() {
        DrillRows x = Check.drilling("e1@0p0;");
        for (int drill : new int[] {1, -1, 8, Integer.MIN_VALUE, Integer.MAX_VALUE}) {
            Check.refused("compare(0, " + drill + ")", Check.UNKNOWN, () -> x.compare(0, drill));
            Check.refused("compare(" + drill + ", 0)", Check.UNKNOWN, () -> x.compare(drill, 0));
        }
    }
}
