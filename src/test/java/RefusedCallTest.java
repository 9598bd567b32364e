/**
 * Promises 2 to 24: the bounds of each argument of each call. The last value that is allowed is taken and
 * the first that is not is refused, on either side, with the exception that the document names; and a
 * refused call changes nothing, in a new room and in one with a past.
 */
public final class RefusedCallTest {
    private static final Tester t = new Tester();
    private static final Twins.Deed NEW = Twins::nothing;
    private static final Twins.Deed LIVED = Twins::lived;

    private interface CallWith {
        void make(RoomClimate x, int v);
    }

    public static void main(String[] args) {
        rooms();
        walls();
        goods();
        rows();
        machines();
        hours();
        layers();
        kindsThatAreAskedFor();
        books();
        risks();
        rules();
        alarms();
        hoursThatWere();
        sensorValues();
        plans();
        t.end();
    }

    private static void bounds(String what, int least, int most, Class<?> refusal, CallWith call) {
        boundsBehind(NEW, "new: " + what, least, most, refusal, call);
        boundsBehind(LIVED, "lived: " + what, least, most, refusal, call);
    }

    private static void boundsBehind(
            Twins.Deed past, String what, int least, int most, Class<?> refusal, CallWith call) {
        for (int v : new int[] {least, least + (most - least) / 2, most}) {
            Twins.taken(t, what + " " + v, past, x -> call.make(x, v));
        }
        for (int v : new int[] {Integer.MIN_VALUE, least - 1, most + 1, Integer.MAX_VALUE}) {
            Twins.refused(t, what + " " + v, refusal, past, x -> call.make(x, v));
        }
    }

    /** Where there is none, every number is one of nothing. */
    private static void noneBehind(Twins.Deed past, String what, CallWith call) {
        for (int v : new int[] {Integer.MIN_VALUE, -2, -1, 0, 1, Integer.MAX_VALUE}) {
            Twins.refused(t, what + " " + v, Tester.INDEX, past, x -> call.make(x, v));
        }
    }

    /** Promise 2: VOLUME 1 .. 1000, SHARE 0 .. 1000. */
    private static void rooms() {
        bounds("room, volume", 1, 1000, Tester.ARGUMENT, (x, v) -> x.room(v, 500));
        bounds("room, share", 0, 1000, Tester.ARGUMENT, (x, v) -> x.room(7, v));
    }

    /** Promise 3: CONDUCTANCE 0 .. 100, CAPACITY 1 .. 1000. */
    private static void walls() {
        bounds("wall, conductance", 0, 100, Tester.ARGUMENT, (x, v) -> x.wall(v, 20));
        bounds("wall, capacity", 1, 1000, Tester.ARGUMENT, (x, v) -> x.wall(20, v));
    }

    /** Promise 4: KILOGRAMS 0 .. 1000. */
    private static void goods() {
        bounds("goods", 0, 1000, Tester.ARGUMENT, (x, v) -> x.goods(v));
    }

    /** Promise 5: a damp 0 .. 60000, above that of the last one, and milligrams 0 .. 10000. */
    private static void rows() {
        boundsBehind(NEW, "first row, damp", 0, 60000, Tester.ARGUMENT, (x, v) -> x.row(v, 77));
        bounds("row, milligrams", 0, 10000, Tester.ARGUMENT, (x, v) -> x.row(30000, v));
        boundsBehind(LIVED, "row behind one of 12000, damp", 12001, 60000, Tester.ARGUMENT, (x, v) -> x.row(v, 77));
        boundsBehind(x -> x.row(0, 5), "row behind one of 0, damp", 1, 60000, Tester.ARGUMENT, (x, v) -> x.row(v, 7));
        boundsBehind(x -> x.row(59999, 5), "row behind one of 59999, damp", 60000, 60000, Tester.ARGUMENT,
            (x, v) -> x.row(v, 77));
        for (int damp : new int[] {-1, 0, 59999, 60000, 60001, Integer.MAX_VALUE}) {
            Twins.refused(t, "row behind one of 60000, damp " + damp, Tester.ARGUMENT, x -> x.row(60000, 5),
                x -> x.row(damp, 77));
        }
    }

    /** Promise 6: kind 0 .. 3, low <= high, both -60000 .. 60000, RATE 0 .. 100000. */
    private static void machines() {
        bounds("machine, kind", 0, 3, Tester.INDEX, (x, v) -> x.machine(v, 10000, 15000, 900));
        for (int kind = 0; kind < 4; kind++) {
            int k = kind;
            String what = "machine " + kind;
            bounds(what + ", low", -60000, 5000, Tester.ARGUMENT, (x, v) -> x.machine(k, v, 5000, 900));
            bounds(what + ", high", 5000, 60000, Tester.ARGUMENT, (x, v) -> x.machine(k, 5000, v, 900));
            bounds(what + ", low and high", -60000, 60000, Tester.ARGUMENT, (x, v) -> x.machine(k, v, v, 900));
            bounds(what + ", rate", 0, 100000, Tester.ARGUMENT, (x, v) -> x.machine(k, 5000, 9000, v));
        }
        Twins.taken(t, "machine with the widest band", NEW, x -> x.machine(0, -60000, 60000, 100000));
        Twins.refused(t, "machine with all turned round", Tester.ARGUMENT, LIVED, x -> x.machine(0, 60000, -60000, 5));
    }

    /** Promise 7: degrees -60000 .. 60000, damp 0 .. 60000, visitors 0 .. 99. */
    private static void hours() {
        bounds("hour, degrees", -60000, 60000, Tester.ARGUMENT, (x, v) -> x.hour(v, 5000, 3));
        bounds("hour, damp", 0, 60000, Tester.ARGUMENT, (x, v) -> x.hour(5000, v, 3));
        bounds("hour, visitors", 0, 99, Tester.ARGUMENT, (x, v) -> x.hour(5000, 5000, v));
    }

    /** Promises 10 and 14: there is no such layer. */
    private static void layers() {
        noneBehind(NEW, "layer without layers", (x, v) -> x.layer(v));
        noneBehind(NEW, "dew without layers", (x, v) -> x.dew(v));
        for (int layers = 1; layers <= 5; layers++) {
            int n = layers;
            Twins.Deed past = x -> {
                for (int k = 0; k < n; k++) {
                    x.wall(10 * k, 5);
                }
            };
            boundsBehind(past, "layer of " + n, 0, n - 1, Tester.INDEX, (x, v) -> x.layer(v));
            boundsBehind(past, "dew of " + n, 0, n - 1, Tester.INDEX, (x, v) -> x.dew(v));
        }
    }

    /** Promises 12, 16 and 24: there is no such kind, or what; those that there are can always be asked for. */
    private static void kindsThatAreAskedFor() {
        bounds("on", 0, 3, Tester.INDEX, (x, v) -> x.on(v));
        bounds("points", 0, 3, Tester.INDEX, (x, v) -> x.points(v));
        bounds("count", 0, 4, Tester.INDEX, (x, v) -> x.count(v));
    }

    /** Promise 13: -1, or a kind 0 .. 4; heat (what 0), water (1). */
    private static void books() {
        bounds("book of heat, kind", -1, 4, Tester.INDEX, (x, v) -> x.book(v, 0));
        bounds("book of water, kind", -1, 4, Tester.INDEX, (x, v) -> x.book(v, 1));
        for (int kind = -1; kind < 5; kind++) {
            int k = kind;
            bounds("book " + kind + ", what", 0, 1, Tester.INDEX, (x, v) -> x.book(k, v));
        }
    }

    /** Promise 15: kind 0 .. 3; level -60000 .. 60000, above that of the last one; points 0 .. 1000. */
    private static void risks() {
        bounds("risk, kind", 0, 3, Tester.INDEX, (x, v) -> x.risk(v, 30000, 5));
        for (int kind = 0; kind < 4; kind++) {
            int k = kind;
            String what = "risk " + kind;
            boundsBehind(NEW, what + ", first level", -60000, 60000, Tester.ARGUMENT, (x, v) -> x.risk(k, v, 5));
            boundsBehind(LIVED, what + ", level behind 12000", 12001, 60000, Tester.ARGUMENT,
                (x, v) -> x.risk(k, v, 5));
            boundsBehind(x -> x.risk(k, -60000, 9), what + ", level behind -60000", -59999, 60000, Tester.ARGUMENT,
                (x, v) -> x.risk(k, v, 5));
            boundsBehind(x -> x.risk(k, 59999, 9), what + ", level behind 59999", 60000, 60000, Tester.ARGUMENT,
                (x, v) -> x.risk(k, v, 5));
            boundsBehind(x -> x.risk((k + 1) % 4, 60000, 9), what + ", first level beside another risk", -60000, 60000,
                Tester.ARGUMENT, (x, v) -> x.risk(k, v, 5));
            for (int level : new int[] {-60001, 59999, 60000, 60001}) {
                Twins.refused(t, what + ", level behind 60000: " + level, Tester.ARGUMENT, x -> x.risk(k, 60000, 9),
                    x -> x.risk(k, level, 5));
            }
            bounds(what + ", points", 0, 1000, Tester.ARGUMENT, (x, v) -> x.risk(k, 30000, v));
        }
    }

    /** Promise 17: kind 0 .. 3 (here an IllegalArgumentException), level -60000 .. 60000, HOLD 1 .. 99. */
    private static void rules() {
        bounds("rule, kind", 0, 3, Tester.ARGUMENT, (x, v) -> x.rule(v, 5000, 5));
        for (int kind = 0; kind < 4; kind++) {
            int k = kind;
            bounds("rule " + kind + ", level", -60000, 60000, Tester.ARGUMENT, (x, v) -> x.rule(k, v, 5));
            bounds("rule " + kind + ", hold", 1, 99, Tester.ARGUMENT, (x, v) -> x.rule(k, 5000, v));
        }
    }

    /** Promise 18: there is no such rule, or k is below -1; a k that is too high is none that is refused. */
    private static void alarms() {
        for (int k : new int[] {-2, -1, 0, 1}) {
            noneBehind(NEW, "alarm " + k + " without rules, rule", (x, v) -> x.alarm(v, k));
        }
        for (int rules = 1; rules <= 4; rules++) {
            int n = rules;
            Twins.Deed past = x -> {
                for (int r = 0; r < n; r++) {
                    x.rule(r, 20000, 1);
                }
                x.hour(30000, 0, 0);
            };
            for (int k : new int[] {-1, 0, 7}) {
                boundsBehind(past, "alarm " + k + " of " + n + " rules, rule", 0, n - 1, Tester.INDEX,
                    (x, v) -> x.alarm(v, k));
            }
            for (int r = 0; r < n; r++) {
                int rule = r;
                for (int k : new int[] {-1, 0, 1, 299, 300, Integer.MAX_VALUE}) {
                    Twins.leavesNoTrace(t, "alarm(" + r + ", " + k + ")", past, x -> x.alarm(rule, k));
                }
                for (int k : new int[] {-2, -3, Integer.MIN_VALUE}) {
                    Twins.refused(t, "alarm(" + r + ", " + k + ")", Tester.INDEX, past, x -> x.alarm(rule, k));
                }
            }
        }
    }

    /** Promises 19 to 22: an hour that was. */
    private static void hoursThatWere() {
        noneBehind(NEW, "sensor without hours", (x, v) -> x.sensor(v, 5));
        noneBehind(NEW, "check without hours", (x, v) -> x.check(v, 5));
        noneBehind(NEW, "corrected without hours", (x, v) -> x.corrected(v));
        noneBehind(NEW, "silent without hours", (x, v) -> x.silent(v));
        for (int hours : new int[] {1, 2, 60}) {
            Twins.Deed past = x -> {
                for (int h = 0; h < hours; h++) {
                    x.hour(20000, 10000, 0);
                    x.sensor(h, 50);
                }
            };
            boundsBehind(past, "sensor of " + hours, 0, hours - 1, Tester.INDEX, (x, v) -> x.sensor(v, 5));
            boundsBehind(past, "check of " + hours, 0, hours - 1, Tester.INDEX, (x, v) -> x.check(v, 5));
            boundsBehind(past, "corrected of " + hours, 0, hours - 1, Tester.INDEX, (x, v) -> x.corrected(v));
            boundsBehind(past, "silent of " + hours, 0, hours - 1, Tester.INDEX, (x, v) -> x.silent(v));
        }
    }

    /** Promises 19 and 20: a value, or a right one, -100000 .. 100000; a check only where there is a value. */
    private static void sensorValues() {
        boundsBehind(LIVED, "the first value of an hour", -100000, 100000, Tester.ARGUMENT, (x, v) -> x.sensor(1, v));
        boundsBehind(LIVED, "another value of an hour", -100000, 100000, Tester.ARGUMENT, (x, v) -> x.sensor(2, v));
        boundsBehind(LIVED, "another value of a checked hour", -100000, 100000, Tester.ARGUMENT,
            (x, v) -> x.sensor(4, v));
        boundsBehind(LIVED, "the first check of an hour", -100000, 100000, Tester.ARGUMENT, (x, v) -> x.check(2, v));
        boundsBehind(LIVED, "another check of an hour", -100000, 100000, Tester.ARGUMENT, (x, v) -> x.check(4, v));
        for (int hour : new int[] {1, 3}) {
            for (int right : new int[] {-100000, 0, 100000}) {
                Twins.refused(t, "check(" + hour + ", " + right + ") without a value", Tester.STATE, LIVED,
                    x -> x.check(hour, right));
            }
        }
    }

    /** Promise 23: hours 1 .. 24, degrees -60000 .. 60000, damp 0 .. 60000. */
    private static void plans() {
        bounds("plan, hours", 1, 24, Tester.ARGUMENT, (x, v) -> x.plan(v, 5000, 5000));
        bounds("plan, degrees", -60000, 60000, Tester.ARGUMENT, (x, v) -> x.plan(3, v, 5000));
        bounds("plan, damp", 0, 60000, Tester.ARGUMENT, (x, v) -> x.plan(3, 5000, v));
    }
}
