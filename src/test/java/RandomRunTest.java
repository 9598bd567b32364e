import java.util.Random;

/** Long runs of calls, right and wrong ones, each answer held against the plain room's. */
public final class RandomRunTest {
    private static final int RUNS = 1000;
    // What an object answers behind these is free.
    private static final int CALLS = 512;
    private static final int MOST_CALLS_OF_A_STEP = 4;
    private static final int[] EDGES = {
        Integer.MIN_VALUE, -100001, -100000, -60001, -60000, -2, -1, 0, 1, 2, 3, 4, 5, 6, 23, 24, 25, 98, 99,
        100, 101, 299, 300, 1000, 1001, 10000, 10001, 18000, 20000, 22000, 60000, 60001, 100000, 100001,
        Integer.MAX_VALUE
    };

    private final Tester t;
    private final Random random;
    private final boolean wild;
    private final int shareOfHours;
    private int calls = 0;
    private final RoomClimate room = new RoomClimate();
    private final PlainRoom plain = new PlainRoom();

    private RandomRunTest(Tester t, long seed) {
        this.t = t;
        this.random = new Random(seed);
        this.wild = seed % 3 == 0;
        this.shareOfHours = seed % 5 == 0 ? 85 : 40;
    }

    public static void main(String[] args) {
        Tester t = new Tester();
        for (int run = 0; run < RUNS; run++) {
            RandomRunTest test = new RandomRunTest(t, run);
            while (test.calls <= CALLS - MOST_CALLS_OF_A_STEP) {
                test.step("run " + run + ", call " + test.calls + ": ");
            }
        }
        t.end();
    }

    private int pick(int low, int high) {
        if (random.nextInt(wild ? 12 : 200) == 0) {
            return EDGES[random.nextInt(EDGES.length)];
        }
        int edge = random.nextInt(10);
        return edge == 0 ? low : edge == 1 ? high : low + random.nextInt(high - low + 1);
    }

    private static boolean within(long v, long low, long high) {
        return v >= low && v <= high;
    }

    private void step(String where) {
        if (random.nextInt(100) < shareOfHours) {
            hour(where);
            return;
        }
        int dice = random.nextInt(12);
        if (dice < 5) {
            build(where, random.nextInt(7));
        } else if (dice < 8) {
            sense(where);
        } else {
            ask(where, random.nextInt(13));
        }
    }

    private void same(String what, Object got, Object want) {
        calls++;
        t.due(what, got, want);
    }

    private interface Answer {
        Object give();
    }

    private static String answerOf(Answer call) {
        try {
            return String.valueOf(call.give());
        } catch (RuntimeException e) {
            return "throws " + e.getClass().getSimpleName();
        }
    }

    private static final String INDEX = "throws IndexOutOfBoundsException";
    private static final String STATE = "throws IllegalStateException";
    private static final String ARGUMENT = "throws IllegalArgumentException";

    private void hour(String where) {
        int d = pick(-60000, 60000);
        if (random.nextBoolean()) {
            d = pick(10000, 30000);
        }
        int w = random.nextBoolean() ? pick(0, 60000) : pick(5000, 20000);
        int n = pick(0, 99);
        int dd = d;
        Object want = plain.hours >= 300 ? STATE
            : !within(d, -60000, 60000) || !within(w, 0, 60000) || !within(n, 0, 99) ? ARGUMENT
            : plain.hour(d, w, n);
        same(where + "hour(" + d + ", " + w + ", " + n + ")", answerOf(() -> room.hour(dd, w, n)), want);
        if (random.nextInt(4) > 0) {
            return;
        }
        same(where + "degrees()", room.degrees(), plain.degrees());
        same(where + "damp()", room.damp(), plain.damp());
        same(where + "held()", room.held(), plain.held);
    }

    private void build(String where, int which) {
        switch (which) {
            case 0 -> buildRoom(where);
            case 1 -> buildWall(where);
            case 2 -> buildGoods(where);
            case 3 -> buildRow(where);
            case 4 -> buildMachine(where);
            case 5 -> buildRisk(where);
            default -> buildRule(where);
        }
    }

    private void buildRoom(String where) {
        int volume = pick(1, 1000);
        int share = pick(0, 1000);
        Object want = null;
        if (!within(volume, 1, 1000) || !within(share, 0, 1000)) {
            want = ARGUMENT;
        } else {
            plain.volume = volume;
            plain.share = share;
        }
        same(where + "room(" + volume + ", " + share + ")", answerOf(() -> {
            room.room(volume, share);
            return null;
        }), want);
    }

    private void buildWall(String where) {
        int conductance = pick(0, 100);
        int capacity = pick(1, 1000);
        Object want = plain.layers.size() >= 5 ? STATE
            : !within(conductance, 0, 100) || !within(capacity, 1, 1000) ? ARGUMENT
            : plain.addWall(conductance, capacity);
        same(where + "wall(" + conductance + ", " + capacity + ")",
            answerOf(() -> room.wall(conductance, capacity)), want);
    }

    private void buildGoods(String where) {
        int kilograms = pick(0, 1000);
        Object want = ARGUMENT;
        if (within(kilograms, 0, 1000)) {
            want = plain.kilograms;
            plain.kilograms = kilograms;
        }
        same(where + "goods(" + kilograms + ")", answerOf(() -> room.goods(kilograms)), want);
    }

    private void buildRow(String where) {
        int size = plain.rows.size();
        int last = size == 0 ? -1 : plain.rows.get(size - 1).level();
        int damp = random.nextInt(3) == 0 ? last + random.nextInt(3) - 1 : pick(last + 1, last + 8000);
        int milligrams = pick(0, 10000);
        Object want = STATE;
        if (size < 6) {
            want = ARGUMENT;
            if (within(damp, 0, 60000) && within(milligrams, 0, 10000) && damp > last) {
                want = size;
                plain.rows.add(new PlainRoom.Row(damp, milligrams));
            }
        }
        same(where + "row(" + damp + ", " + milligrams + ")", answerOf(() -> room.row(damp, milligrams)), want);
    }

    private void buildMachine(String where) {
        int kind = pick(0, 3);
        int low = kind < 2 ? pick(15000, 25000) : pick(2000, 20000);
        int high = pick(low - 10, low + 3000);
        int rate = pick(0, 100000);
        Object want = null;
        if (!within(kind, 0, 3)) {
            want = INDEX;
        } else if (low > high || !within(low, -60000, 60000) || !within(high, -60000, 60000)
                || !within(rate, 0, 100000)) {
            want = ARGUMENT;
        } else {
            plain.setMachine(kind, low, high, rate);
        }
        same(where + "machine(" + kind + ", " + low + ", " + high + ", " + rate + ")", answerOf(() -> {
            room.machine(kind, low, high, rate);
            return null;
        }), want);
    }

    private void buildRisk(String where) {
        int kind = pick(0, 3);
        boolean known = within(kind, 0, 3);
        int size = known ? plain.risks.get(kind).size() : 0;
        int last = size == 0 ? -60001 : plain.risks.get(kind).get(size - 1).level();
        int next = Math.max(last, -10000);
        int level = random.nextInt(4) == 0 ? last + random.nextInt(3) - 1 : pick(next, next + 12000);
        int points = pick(0, 1000);
        Object want = !known ? INDEX : size >= 5 ? STATE
            : !within(level, -60000, 60000) || level <= last || !within(points, 0, 1000) ? ARGUMENT : size;
        if (want instanceof Integer) {
            plain.risks.get(kind).add(new PlainRoom.Row(level, points));
        }
        same(where + "risk(" + kind + ", " + level + ", " + points + ")",
            answerOf(() -> room.risk(kind, level, points)), want);
    }

    private void buildRule(String where) {
        int kind = pick(0, 3);
        int level = pick(5000, 25000);
        int hold = random.nextBoolean() ? pick(1, 99) : pick(1, 5);
        Object want = plain.rules.size() >= 4 ? STATE
            : !within(kind, 0, 3) || !within(level, -60000, 60000) || !within(hold, 1, 99) ? ARGUMENT
            : plain.addRule(kind, level, hold);
        same(where + "rule(" + kind + ", " + level + ", " + hold + ")",
            answerOf(() -> room.rule(kind, level, hold)), want);
    }

    private void sense(String where) {
        int hour = pick(0, Math.max(plain.hours, 1));
        int v = pick(-100000, 100000);
        Object want = null;
        if (random.nextInt(3) > 0) {
            if (!within(hour, 0, plain.hours - 1)) {
                want = INDEX;
            } else if (!within(v, -100000, 100000)) {
                want = ARGUMENT;
            } else {
                plain.values.put(hour, v);
            }
            same(where + "sensor(" + hour + ", " + v + ")", answerOf(() -> {
                room.sensor(hour, v);
                return null;
            }), want);
            return;
        }
        if (!within(hour, 0, plain.hours - 1)) {
            want = INDEX;
        } else if (!plain.values.containsKey(hour)) {
            want = STATE;
        } else if (!within(v, -100000, 100000)) {
            want = ARGUMENT;
        } else {
            plain.rights.put(hour, v);
        }
        same(where + "check(" + hour + ", " + v + ")", answerOf(() -> {
            room.check(hour, v);
            return null;
        }), want);
    }

    private void ask(String where, int which) {
        switch (which) {
            case 0, 1 -> askLayer(where);
            case 2 -> askBook(where);
            case 3 -> askKinds(where);
            case 4, 5 -> askAlarm(where);
            case 6, 7, 8 -> askSensor(where);
            case 9 -> askCount(where);
            default -> askPlan(where);
        }
    }

    private void askLayer(String where) {
        int k = pick(0, 5);
        boolean known = within(k, 0, plain.layers.size() - 1);
        same(where + "layer(" + k + ")", answerOf(() -> room.layer(k)), known ? plain.layerDegrees(k) : INDEX);
        same(where + "dew(" + k + ")", answerOf(() -> room.dew(k)), known ? plain.dew(k) : INDEX);
    }

    private void askBook(String where) {
        int kind = pick(-2, 5);
        int what = pick(-1, 2);
        Object want = !within(kind, -1, 4) || !within(what, 0, 1) ? INDEX
            : kind >= 0 ? plain.books[kind][what] : what == 0 ? plain.heat : plain.water;
        same(where + "book(" + kind + ", " + what + ")", answerOf(() -> room.book(kind, what)), want);
    }

    private void askKinds(String where) {
        int kind = pick(-1, 4);
        boolean known = within(kind, 0, 3);
        same(where + "points(" + kind + ")", answerOf(() -> room.points(kind)), known ? plain.points[kind] : INDEX);
        Object on = known ? plain.machines[kind] != null && plain.machines[kind].on : INDEX;
        same(where + "on(" + kind + ")", answerOf(() -> room.on(kind)), on);
    }

    private void askAlarm(String where) {
        int rule = pick(0, 4);
        int k = pick(-2, 10);
        Object want = INDEX;
        if (within(rule, 0, plain.rules.size() - 1) && k >= -1) {
            var alarms = plain.rules.get(rule).alarms;
            want = k == -1 ? alarms.size() : k < alarms.size() ? alarms.get(k) : -1;
        }
        same(where + "alarm(" + rule + ", " + k + ")", answerOf(() -> room.alarm(rule, k)), want);
    }

    private void askSensor(String where) {
        int hour = pick(-1, Math.max(plain.hours, 1));
        boolean known = within(hour, 0, plain.hours - 1);
        same(where + "corrected(" + hour + ")", answerOf(() -> room.corrected(hour)),
            known ? plain.corrected(hour) : INDEX);
        same(where + "silent(" + hour + ")", answerOf(() -> room.silent(hour)), known ? plain.silent(hour) : INDEX);
    }

    private void askCount(String where) {
        int what = pick(-1, 5);
        int[] counts = {
            plain.hours, plain.layers.size(), plain.rows.size(), plain.rules.size(), plain.rights.size()
        };
        Object want = within(what, 0, 4) ? counts[what] : INDEX;
        same(where + "count(" + what + ")", answerOf(() -> room.count(what)), want);
    }

    private void askPlan(String where) {
        int hours = pick(1, 24);
        int d = random.nextBoolean() ? pick(-60000, 60000) : pick(5000, 25000);
        int w = pick(0, 60000);
        Object want = within(hours, 1, 24) && within(d, -60000, 60000) && within(w, 0, 60000)
            ? plain.plan(hours, d, w) : ARGUMENT;
        same(where + "plan(" + hours + ", " + d + ", " + w + ")", answerOf(() -> room.plan(hours, d, w)), want);
    }
}
