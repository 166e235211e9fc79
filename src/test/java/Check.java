/** What the tests share: answers compared, refusals compared, texts put on the tape. */
final class Check {
    static final Class<?> UNKNOWN = IllegalArgumentException.class;
    static final Class<?> OUTSIDE = IndexOutOfBoundsException.class;
    static final Class<?> STATE = IllegalStateException.class;
    static final Class<?> ROOM = UnsupportedOperationException.class;
    static final Class<?> NO_SCORE = ArithmeticException.class;

    private static int wrong = 0;

    private Check() {
    }

    interface Call {
        long answer();
    }

    static void same(String what, long got, long due) {
        if (got != due) {
            report(what + " answered " + got + ", due is " + due);
        }
    }

    /** The very class is compared, so that the machine's own subclasses of it count as wrong. */
    static void refused(String what, Class<?> due, Call call) {
        try {
            report(what + " answered " + call.answer() + ", due is " + due.getSimpleName());
        } catch (RuntimeException e) {
            if (e.getClass() != due) {
                report(what + " threw " + e.getClass().getSimpleName() + ", due is " + due.getSimpleName());
            }
        }
    }

    static void report(String text) {
        wrong++;
        System.out.println(text);
    }

    static void end() {
        if (wrong != 0) {
            System.out.println(wrong + " answers are not as due");
            System.exit(1);
        }
    }

    static void sign(DrillRows x, String text) {
        for (int from = 0; from < text.length(); from += 8) {
            int to = Math.min(text.length(), from + 8);
            long bytes = 0;
            for (int i = from; i < to; i++) {
                bytes = bytes << 8 | text.charAt(i);
            }
            x.sign(bytes, to - from);
        }
    }

    static int read(DrillRows x, String text) {
        sign(x, text);
        return x.read();
    }

    /** A right text: taken by a new object, with so many events. */
    static void right(String text, int events) {
        DrillRows x = new DrillRows();
        sign(x, text);
        try {
            same("events of '" + text + "'", x.read(), events);
        } catch (IllegalStateException e) {
            report("'" + text + "' was refused");
        }
        same("place of '" + text + "'", x.place(), -1);
    }

    /** A wrong text: refused by a new object, at that place. */
    static void wrong(String text, int place) {
        DrillRows x = new DrillRows();
        sign(x, text);
        refused("read of '" + text + "'", STATE, x::read);
        same("place of '" + text + "'", x.place(), place);
    }

    /** A new object with a script that is read. */
    static DrillRows with(String text) {
        DrillRows x = new DrillRows();
        read(x, text);
        return x;
    }

    /** A new object with a script that is read, and its drill 0. */
    static DrillRows drilling(String text) {
        DrillRows x = with(text);
        x.begin();
        return x;
    }
}
