/** Promises 1 to 4: a new object, sign, read, place. */
public final class ScriptTest {
    public static void main(String[] args) {
        newObject();
        signs();
        signRefusals();
        fullTape();
        rightTexts();
        wrongRows();
        wrongEvents();
        wrongAims();
        wrongNumbers();
        numbersToldTwice();
        blanks();
        tapeIsUsedUp();
        scriptStays();
        placeFollowsTheLatestText();
        mostAims();
        Check.end();
    }

    private static void newObject() {
        DrillRows x = new DrillRows();
        Check.same("place of a new object", x.place(), -1);
        Check.refused("begin of a new object", Check.STATE, x::begin);
        Check.refused("drill 0 of a new object", Check.UNKNOWN, () -> x.drill(0, 0));
        Check.refused("row 0 of a new object", Check.UNKNOWN, () -> x.row(0, 0));
        for (int unit = 0; unit < 20; unit++) {
            Check.same("real of a new object", x.real(unit), -1);
        }
        Check.same("tick of a new object", x.tick(1), 0);
        Check.same("read of an empty tape", x.read(), 0);
        Check.same("place behind an empty tape", x.place(), -1);
        Check.refused("begin by an empty script", Check.STATE, x::begin);
    }

    private static void signs() {
        DrillRows x = new DrillRows();
        Check.same("the lowest byte alone", x.sign(0x7878787878787865L, 1), 1);
        Check.same("how many in all", x.sign(0x3121L, 1), 2);
        Check.refused("e with a byte that is no digit", Check.STATE, x::read);
        Check.same("place", x.place(), 1);
        Check.same("highest first", x.sign(0x6531403070303BL, 7), 7);
        Check.same("events", x.read(), 1);
        Check.same("sign counts anew behind read", x.sign(0x20, 1), 1);
        Check.same("bytes above 127 stay on the tape", x.sign(-1L, 8), 9);
        Check.refused("bytes of 255", Check.STATE, x::read);
        Check.same("their place", x.place(), 1);
    }

    private static void signRefusals() {
        DrillRows x = new DrillRows();
        for (int n : new int[] {0, 9, -1, Integer.MIN_VALUE, Integer.MAX_VALUE}) {
            Check.refused("sign of " + n + " bytes", Check.OUTSIDE, () -> x.sign(0x20, n));
        }
        Check.same("nothing was put on the tape", x.sign(0x20, 1), 1);
    }

    private static void fullTape() {
        DrillRows x = new DrillRows();
        Check.sign(x, " ".repeat(296));
        Check.refused("more than 300", Check.ROOM, () -> x.sign(0, 5));
        Check.refused("the number ahead of the room", Check.OUTSIDE, () -> x.sign(0, 9));
        Check.same("just 300", x.sign(0x20202020L, 4), 300);
        Check.refused("301", Check.ROOM, () -> x.sign(0x20, 1));
        Check.same("300 blanks are a right text", x.read(), 0);
        Check.same("their place", x.place(), -1);
        Check.same("300 bytes with a row", Check.read(x, " ".repeat(293) + "e1@0p0;"), 1);
    }

    private static void rightTexts() {
        Check.right("e1@0p0;", 1);
        Check.right("e40@9999p9!f9;", 1);
        Check.right("e1@0p0!;", 1);
        Check.right("e1@0p0f1;", 1);
        Check.right("e1>0+0~0p0;", 1);
        Check.right("e1>19+999~9999p9!f9;", 1);
        Check.right("e2@0p0;e1@0p0;e3@0p0;", 3);
        Check.right("e1@0p0;a1e1>0<1w1;a20e1>19<999w9;e10@1p1;a2e10>1<1w1;", 2);
    }

    private static void wrongRows() {
        Check.wrong(";", 0);
        Check.wrong("x", 0);
        Check.wrong("E1@0p0;", 0);
        Check.wrong("1", 0);
        Check.wrong("\t", 0);
        Check.wrong("\0", 0);
        Check.wrong("e1@0p0;;", 7);
        Check.wrong("e1@0p0;b", 7);
        Check.wrong("e1@0p0", 6);
        Check.wrong("e1@0p0 e", 7);
        Check.wrong("e1@0p0;a1e1>0<1w1", 17);
    }

    private static void wrongEvents() {
        Check.wrong("e", 1);
        Check.wrong("e1", 2);
        Check.wrong("ex", 1);
        Check.wrong("e1p", 2);
        Check.wrong("e1@", 3);
        Check.wrong("e1@p", 3);
        Check.wrong("e1@1", 4);
        Check.wrong("e1@1;", 4);
        Check.wrong("e1@1p", 5);
        Check.wrong("e1@1p!", 5);
        Check.wrong("e1@1+", 4);
        Check.wrong("e1>", 3);
        Check.wrong("e1>1", 4);
        Check.wrong("e1>1~", 4);
        Check.wrong("e1>1+", 5);
        Check.wrong("e1>1+1", 6);
        Check.wrong("e1>1+1p", 6);
        Check.wrong("e1>1+1~", 7);
        Check.wrong("e1>1+1~1", 8);
        Check.wrong("e1@1p1!!", 7);
        Check.wrong("e1@1p1f", 7);
        Check.wrong("e1@1p1f;", 7);
        Check.wrong("e1@1p1f1!", 8);
        Check.wrong("e1@1p1f1f", 8);
        Check.wrong("e1@1p1!;a", 9);
    }

    private static void wrongAims() {
        String event = "e1@1p1;";
        Check.wrong("a1e1>1<1w1;", 3);
        Check.wrong(event + "a", 8);
        Check.wrong(event + "a1", 9);
        Check.wrong(event + "a1>", 9);
        Check.wrong(event + "a1e", 10);
        Check.wrong(event + "a1e2>", 10);
        Check.wrong(event + "a1e12", 11);
        Check.wrong(event + "a1e1", 11);
        Check.wrong(event + "a1e1<", 11);
        Check.wrong(event + "a1e1>", 12);
        Check.wrong(event + "a1e1>1", 13);
        Check.wrong(event + "a1e1>1w", 13);
        Check.wrong(event + "a1e1>1<", 14);
        Check.wrong(event + "a1e1>1<1", 15);
        Check.wrong(event + "a1e1>1<1;", 15);
        Check.wrong(event + "a1e1>1<1w", 16);
        Check.wrong(event + "a1e1>1<1w1!", 17);
        Check.wrong(event + "a1e2>1<1w1;e2@1p1;", 10);
    }

    private static void wrongNumbers() {
        String aim = "e1@1p1;a";
        Check.wrong("e0", 1);
        Check.wrong("e05", 1);
        Check.wrong("e41", 2);
        Check.wrong("e411", 3);
        Check.wrong("e4111", 4);
        Check.wrong("e41111", 4);
        Check.wrong("e1@00", 4);
        Check.wrong("e1@05", 4);
        Check.wrong("e1@10000", 7);
        Check.wrong("e1@123456", 7);
        Check.wrong("e1>20+", 4);
        Check.wrong("e1>00", 4);
        Check.wrong("e1>1+1000~", 8);
        Check.wrong("e1>1+1~10000", 11);
        Check.wrong("e1@1p10", 6);
        Check.wrong("e1@1p1234", 8);
        Check.wrong("e1@1p12345", 8);
        Check.wrong("e1@1p1f0", 7);
        Check.wrong("e1@1p1f10", 8);
        Check.wrong(aim + "0", 8);
        Check.wrong(aim + "21", 9);
        Check.wrong(aim + "1e0", 10);
        Check.wrong(aim + "1e41", 11);
        Check.wrong(aim + "1e1>20", 13);
        Check.wrong(aim + "1e1>1<0", 14);
        Check.wrong(aim + "1e1>1<1000", 17);
        Check.wrong(aim + "1e1>1<1w0", 16);
        Check.wrong(aim + "1e1>1<1w10", 17);
        Check.wrong("e-1", 1);
        Check.wrong("e1:", 2);
        Check.wrong("e1@/", 3);
    }

    private static void numbersToldTwice() {
        Check.wrong("e1@1p1;e1", 8);
        Check.wrong("e1@1p1;e1@", 8);
        Check.wrong("e40@1p1;e40", 10);
        Check.wrong("e1@1p1;a1e1>1<1w1;a1", 19);
        Check.wrong("e1@1p1;a20e1>1<1w1;a20e", 21);
        Check.right("e1@1p1;e11@1p1;a1e1>1<1w1;a11e11>1<1w1;", 2);
    }

    private static void blanks() {
        Check.right("  e  1  @  1  p  1  !  f  1  ;  a 2 e 1 > 3 < 4 w 5 ;  ", 1);
        Check.right(" e 12 > 3 + 44 ~ 555 p 6 ; ", 1);
        Check.wrong("e1 2", 3);
        Check.wrong("e 1 @ 1 0", 8);
        Check.wrong("e1@1p1 ! f 1 2", 13);
        Check.wrong("e ", 2);
        Check.wrong("e1@1p1  ", 8);
        Check.wrong("e1@1p1;e1  ", 8);
    }

    private static void tapeIsUsedUp() {
        DrillRows x = new DrillRows();
        Check.sign(x, "e1@0p0");
        Check.refused("a text without its end", Check.STATE, x::read);
        Check.same("the tape is empty behind a wrong text", x.sign(0x3B, 1), 1);
        Check.refused("the end alone", Check.STATE, x::read);
        Check.same("its place", x.place(), 0);
    }

    private static void scriptStays() {
        DrillRows x = Check.with("e5@0p3;");
        Check.sign(x, "e1@0p0;e2@0p0;x");
        Check.refused("a wrong text", Check.STATE, x::read);
        Check.same("begin by the script that stays", x.begin(), 0);
        Check.same("its event", x.event(0, 5, 1), 3);
        Check.refused("no event of the wrong text", Check.UNKNOWN, () -> x.event(0, 1, 1));
        Check.same("an empty text becomes the script", x.read(), 0);
        Check.refused("begin by it", Check.STATE, x::begin);
        Check.same("events anew", Check.read(x, "e1@0p0;"), 1);
        Check.same("begin anew", x.begin(), 1);
        Check.refused("nothing is left of scripts ahead", Check.UNKNOWN, () -> x.event(1, 5, 1));
    }

    private static void placeFollowsTheLatestText() {
        DrillRows x = new DrillRows();
        Check.sign(x, "e1@0q");
        Check.same("nothing read yet", x.place(), -1);
        Check.refused("a wrong text", Check.STATE, x::read);
        Check.same("its place", x.place(), 4);
        Check.sign(x, "e1@0p0;");
        Check.same("still that of the latest text", x.place(), 4);
        Check.same("a right text", x.read(), 1);
        Check.same("no place", x.place(), -1);
    }

    private static void mostAims() {
        StringBuilder text = new StringBuilder("e1@0p0;");
        for (int number = 20; number >= 1; number--) {
            text.append('a').append(number).append("e1>0<1w9;");
        }
        DrillRows x = Check.drilling(text.toString());
        for (int number = 1; number <= 20; number++) {
            Check.same("aim " + number, x.aim(0, number), 0);
        }
        Check.refused("aim 21", Check.UNKNOWN, () -> x.aim(0, 21));
    }
}
