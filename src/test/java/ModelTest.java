import java.util.ArrayList;
import java.util.Arrays;
import java.util.List;
import java.util.Random;
import java.util.TreeMap;

/**
 * Long runs of calls by fixed seeds, compared with a plain model that lives through every second
 * by itself instead of reckoning when events are due.
 */
public final class ModelTest {
    private static final int RUNS = 400;
    /** A last text may take some forty calls more, and an object is used for 512. */
    private static final int CALLS = 470;
    private static final int[] EDGES = {Integer.MIN_VALUE, Integer.MAX_VALUE};

    public static void main(String[] args) {
        for (int run = 0; run < RUNS; run++) {
            new Run(run).go();
        }
        Check.end();
    }

    private static final class Event {
        int second = -1;
        int act = -1;
        int delay;
        int latest;
        int part;
        boolean secret;
        int fault;
    }

    private static final class Aim {
        int event;
        int act;
        int seconds;
        int weight;
    }

    private static final class Script {
        final TreeMap<Integer, Event> events = new TreeMap<>();
        final TreeMap<Integer, Aim> aims = new TreeMap<>();
    }

    private static final class Drill {
        Script script;
        int began;
        boolean on = true;
        final TreeMap<Integer, Integer> begun = new TreeMap<>();
        final List<int[]> acts = new ArrayList<>();

        int live(int now) {
            int count = 0;
            int second = now - began;
            for (int number : script.events.keySet()) {
                if (on && !begun.containsKey(number) && isDue(script.events.get(number), second)) {
                    begun.put(number, second);
                    count++;
                }
            }
            return count;
        }

        private boolean isDue(Event event, int second) {
            if (event.act < 0) {
                return event.second == second;
            }
            for (int[] act : acts) {
                if (act[0] == event.act) {
                    return act[1] + event.delay == second || event.latest == second;
                }
            }
            return event.latest == second;
        }

        int aim(int number, int now) {
            Aim aim = script.aims.get(number);
            Integer begin = begun.get(aim.event);
            if (begin != null) {
                for (int[] act : acts) {
                    if (act[0] == aim.act && act[1] >= begin) {
                        if (act[1] - begin <= aim.seconds) {
                            return 1;
                        }
                        break;
                    }
                }
                if (now - began - begin > aim.seconds) {
                    return 2;
                }
            }
            return on ? 0 : 2;
        }
    }

    private static final class Run {
        private final int run;
        private final Random random;
        private final DrillRows rows = new DrillRows();
        private Script script = new Script();
        private final List<Drill> drills = new ArrayList<>();
        private final int[] units = new int[20];
        private final List<int[]> observed = new ArrayList<>();
        private int now = 0;
        private int calls = 0;

        Run(int run) {
            this.run = run;
            this.random = new Random(run);
            Arrays.fill(units, -1);
        }

        void go() {
            readScript();
            while (calls < CALLS) {
                step(random.nextInt(24));
            }
        }

        /** Mostly within 0 .. bound - 1, at times just outside of it, or far. */
        private int about(int bound) {
            int kind = random.nextInt(50);
            if (kind < 4) {
                return random.nextBoolean() ? -1 : bound;
            }
            return kind == 4 ? EDGES[random.nextInt(2)] : random.nextInt(bound);
        }

        private void compare(String call, Check.Call real, Check.Call model) {
            calls++;
            String got = answer(real);
            String due = answer(model);
            if (!got.equals(due)) {
                Check.report("run " + run + ", call " + calls + ": " + call + " answered " + got + ", due is " + due);
            }
        }

        private static String answer(Check.Call call) {
            try {
                return Long.toString(call.answer());
            } catch (RuntimeException e) {
                return e.getClass().getSimpleName();
            }
        }

        private Drill known(int drill) {
            if (drill < 0 || drill >= drills.size()) {
                throw new IllegalArgumentException();
            }
            return drills.get(drill);
        }

        private static void unless(boolean right, RuntimeException refusal) {
            if (!right) {
                throw refusal;
            }
        }

        private void step(int kind) {
            int drill = about(Math.max(1, drills.size()));
            switch (kind) {
                case 0: readAtTimes(); break;
                case 1: compare("begin", rows::begin, this::begin); break;
                case 2: stopAtTimes(drill); break;
                case 3: case 4: unit(drill, about(20)); break;
                case 5: real(about(20)); break;
                case 6: case 7: case 8: case 9: act(drill, random.nextInt(3) == 0 ? about(20) : random.nextInt(3)); break;
                case 10: case 11: case 12: tick(); break;
                case 13: event(drill, about(41), about(4)); break;
                case 14: case 15: seen(drill, about(10), random.nextInt(6) - (random.nextInt(9) == 0 ? 1 : 0)); break;
                case 16: fault(drill, about(10)); break;
                case 17: case 18: aim(drill, about(9)); break;
                case 19: score(drill, about(2)); break;
                case 20: compareDrills(drill, about(Math.max(1, drills.size()))); break;
                case 21: observe(drill); break;
                case 22: row(about(Math.max(1, observed.size())), about(4)); break;
                default: tell(drill, about(5)); break;
            }
        }

        private void readAtTimes() {
            if (random.nextInt(4) == 0) {
                readScript();
            }
        }

        private void readScript() {
            Script made = new Script();
            StringBuilder text = new StringBuilder();
            while (text.length() < 220 && random.nextInt(30) > 0) {
                if (made.events.isEmpty() || random.nextInt(3) > 0) {
                    addEvent(made, text);
                } else {
                    addAim(made, text);
                }
            }
            Check.sign(rows, text.toString());
            calls += (text.length() + 7) / 8;
            compare("read of " + text, rows::read, () -> made.events.size());
            compare("place", rows::place, () -> -1);
            script = made;
        }

        private String blank() {
            return random.nextInt(30) == 0 ? " " : "";
        }

        private void addEvent(Script made, StringBuilder text) {
            int number = 1 + random.nextInt(40);
            if (made.events.containsKey(number)) {
                return;
            }
            Event event = new Event();
            event.part = random.nextInt(10);
            event.secret = random.nextBoolean();
            event.fault = random.nextInt(10);
            text.append(blank()).append('e').append(blank()).append(number).append(blank());
            if (random.nextInt(3) == 0) {
                event.second = random.nextInt(random.nextBoolean() ? 10 : 2000);
                text.append('@').append(event.second);
            } else {
                event.act = random.nextInt(3);
                event.delay = random.nextInt(random.nextBoolean() ? 3 : 100);
                event.latest = random.nextInt(random.nextBoolean() ? 10 : 3000);
                text.append('>').append(event.act).append('+').append(blank()).append(event.delay);
                text.append(blank()).append('~').append(event.latest);
            }
            text.append(blank()).append('p').append(event.part).append(event.secret ? "!" : "");
            text.append(event.fault > 0 ? "f" + event.fault : "").append(blank()).append(';');
            made.events.put(number, event);
        }

        private void addAim(Script made, StringBuilder text) {
            int number = 1 + random.nextInt(8);
            if (made.aims.containsKey(number)) {
                return;
            }
            Aim aim = new Aim();
            List<Integer> told = new ArrayList<>(made.events.keySet());
            aim.event = told.get(random.nextInt(told.size()));
            aim.act = random.nextInt(3);
            aim.seconds = 1 + random.nextInt(random.nextBoolean() ? 5 : 999);
            aim.weight = 1 + random.nextInt(9);
            text.append('a').append(number).append(blank()).append('e').append(aim.event).append('>');
            text.append(aim.act).append('<').append(aim.seconds).append('w').append(aim.weight).append(';');
            made.aims.put(number, aim);
        }

        private int begin() {
            unless(!script.events.isEmpty(), new IllegalStateException());
            unless(drills.size() < 8, new UnsupportedOperationException());
            Drill made = new Drill();
            made.script = script;
            made.began = now;
            drills.add(made);
            made.live(now);
            return drills.size() - 1;
        }

        private void stopAtTimes(int drill) {
            if (random.nextInt(5) > 0) {
                return;
            }
            compare("stop " + drill, () -> {
                rows.stop(drill);
                return 0;
            }, () -> {
                unless(known(drill).on, new IllegalStateException());
                known(drill).on = false;
                for (int unit = 0; unit < 20; unit++) {
                    units[unit] = units[unit] == drill ? -1 : units[unit];
                }
                return 0;
            });
        }

        private void unit(int drill, int unit) {
            compare("unit " + drill + " " + unit, () -> {
                rows.unit(drill, unit);
                return 0;
            }, () -> {
                Drill found = known(drill);
                unless(unit >= 0 && unit < 20, new IllegalArgumentException());
                unless(found.on && units[unit] < 0, new IllegalStateException());
                units[unit] = drill;
                return 0;
            });
        }

        private void real(int unit) {
            compare("real " + unit, () -> rows.real(unit), () -> {
                unless(unit >= 0 && unit < 20, new IllegalArgumentException());
                int from = units[unit];
                units[unit] = -1;
                return from;
            });
        }

        private void act(int drill, int act) {
            int seed = random.nextInt();
            boolean bySeed = random.nextInt(4) == 0;
            long x = (seed * 1_103_515_245L + 12_345L) & 0xFFFF_FFFFL;
            int done = bySeed ? (int) ((x >> 16) % 20) : act;
            compare("act " + drill + " " + done, () -> bySeed ? rows.play(drill, seed) : rows.act(drill, act), () -> {
                Drill found = known(drill);
                unless(done >= 0 && done < 20, new IllegalArgumentException());
                unless(found.on, new IllegalStateException());
                unless(found.acts.size() < 60, new UnsupportedOperationException());
                found.acts.add(new int[] {done, now - found.began});
                return found.live(now);
            });
        }

        private void tick() {
            int most = random.nextInt(10) == 0 ? 5000 : random.nextInt(3) == 0 ? 50 : 4;
            int seconds = random.nextInt(20) == 0 ? (random.nextBoolean() ? 0 : 5001) : 1 + random.nextInt(most);
            compare("tick " + seconds, () -> rows.tick(seconds), () -> {
                unless(seconds >= 1 && seconds <= 5000 && now + seconds <= 99_999, new IndexOutOfBoundsException());
                int began = 0;
                for (int i = 0; i < seconds; i++) {
                    now++;
                    for (Drill each : drills) {
                        began += each.live(now);
                    }
                }
                return began;
            });
        }

        private void event(int drill, int number, int what) {
            compare("event " + drill + " " + number + " " + what, () -> rows.event(drill, number, what), () -> {
                Drill found = known(drill);
                Event event = found.script.events.get(number);
                unless(event != null && what >= 0 && what < 4, new IllegalArgumentException());
                return new int[] {found.begun.getOrDefault(number, -1), event.part, event.secret ? 1 : 0, event.fault}[what];
            });
        }

        private void seen(int drill, int part, int i) {
            compare("seen " + drill + " " + part + " " + i, () -> rows.seen(drill, part, i), () -> {
                Drill found = known(drill);
                unless(part >= 0 && part < 10, new IllegalArgumentException());
                unless(i >= 0, new IndexOutOfBoundsException());
                List<Integer> visible = new ArrayList<>(found.begun.keySet());
                visible.removeIf(n -> found.script.events.get(n).secret && found.script.events.get(n).part != part);
                return i < visible.size() ? visible.get(i) : -1;
            });
        }

        private void fault(int drill, int fault) {
            compare("fault " + drill + " " + fault, () -> rows.fault(drill, fault) ? 1 : 0, () -> {
                Drill found = known(drill);
                unless(fault >= 1 && fault <= 9, new IllegalArgumentException());
                return found.on && found.begun.keySet().stream().anyMatch(n -> found.script.events.get(n).fault == fault) ? 1 : 0;
            });
        }

        private void aim(int drill, int number) {
            compare("aim " + drill + " " + number, () -> rows.aim(drill, number), () -> {
                unless(known(drill).script.aims.containsKey(number), new IllegalArgumentException());
                return known(drill).aim(number, now);
            });
        }

        private void score(int drill, int what) {
            compare("score " + drill + " " + what, () -> rows.score(drill, what), () -> {
                Drill found = known(drill);
                unless(what >= 0 && what < 2, new IllegalArgumentException());
                unless(!found.script.aims.isEmpty(), new ArithmeticException());
                int upper = 0;
                int lower = 0;
                for (int number : found.script.aims.keySet()) {
                    int weight = found.script.aims.get(number).weight;
                    lower += weight;
                    upper += found.aim(number, now) == 1 ? weight : 0;
                }
                int a = upper;
                int b = lower;
                while (a != 0) {
                    int rest = b % a;
                    b = a;
                    a = rest;
                }
                return (what == 0 ? upper : lower) / b;
            });
        }

        private void compareDrills(int drill, int other) {
            compare("compare " + drill + " " + other, () -> rows.compare(drill, other), () -> {
                Drill one = known(drill);
                Drill two = known(other);
                return one.script.aims.keySet().stream().filter(two.script.aims::containsKey)
                    .filter(n -> one.aim(n, now) != two.aim(n, now)).count();
            });
        }

        private void observe(int drill) {
            int gone = drill >= 0 && drill < drills.size() ? now - drills.get(drill).began : 0;
            int second = random.nextInt(4) == 0 ? gone - 58 - random.nextInt(5) : gone + 1 - random.nextInt(6);
            int mark = about(10);
            compare("observe " + drill + " " + second + " " + mark, () -> rows.observe(drill, second, mark), () -> {
                known(drill);
                unless(second >= 0 && second <= gone && mark >= 0 && mark < 10, new IndexOutOfBoundsException());
                unless(observed.size() < 100, new UnsupportedOperationException());
                observed.add(new int[] {drill, second, mark, gone > second + 60 ? 1 : 0});
                return observed.size() - 1;
            });
        }

        private void row(int i, int what) {
            compare("row " + i + " " + what, () -> rows.row(i, what), () -> {
                unless(i >= 0 && i < observed.size() && what >= 0 && what < 4, new IllegalArgumentException());
                return observed.get(i)[what];
            });
        }

        private void tell(int drill, int what) {
            compare("drill " + drill + " " + what, () -> rows.drill(drill, what), () -> {
                Drill found = known(drill);
                unless(what >= 0 && what < 5, new IllegalArgumentException());
                int drilling = 0;
                for (int unit : units) {
                    drilling += unit == drill ? 1 : 0;
                }
                return new int[] {found.on ? 1 : 0, found.began, found.acts.size(), drilling, found.begun.size()}[what];
            });
        }
    }
}
