/**
 * A room by hours in whole numbers: degrees in thousandths, water in milligrams, heat in units.
 * Every quotient is rounded down, towards the lesser whole number.
 */
public final class RoomClimate {
    public static final int NONE = -1;

    private static final int HEAT = 0;
    private static final int KINDS_OF_CONTENT = 2;

    private static final int AIR = 0;
    private static final int WALLS = 1;
    private static final int GOODS = 2;
    private static final int VISITORS = 3;
    private static final int MACHINES = 4;
    private static final int KINDS_OF_BOOK = 5;

    private static final int WARMER = 0;
    private static final int COOLER = 1;
    private static final int DAMPER = 2;
    private static final int DRYER = 3;
    private static final int KINDS_OF_MACHINE = 4;

    private static final int FIRST_RISK_BY_DEGREES = 2;
    private static final int KINDS_OF_RISK = 4;

    private static final int DEGREES_ABOVE = 0;
    private static final int DEGREES_BELOW = 1;
    private static final int DAMP_ABOVE = 2;
    private static final int DAMP_BELOW = 3;
    private static final int KINDS_OF_RULE = 4;

    private static final int MOST_LAYERS = 5;
    private static final int MOST_GOODS_ROWS = 6;
    private static final int MOST_RISK_ROWS = 5;
    private static final int MOST_RULES = 4;
    private static final int MOST_HOURS = 300;

    private static final int MOST_LEVEL = 60000;
    private static final int MOST_SENSED = 100000;
    private static final int NOTHING_SENSED = -200000;

    private static final int FIRST_DEGREES = 20000;
    private static final int FIRST_DAMP = 10000;

    private static final int MOST_PLANNED_HOURS = 24;
    private static final int LEAST_PLANNED = 18000;
    private static final int MOST_PLANNED = 22000;
    private static final int PLAN_STEP = 500;
    private static final int PLAN_BAND = 500;
    private static final int PLAN_RATE = 5000;
    private static final int PLAN_FINE = 100;

    private final House house;
    // Made once, so that planning makes no objects however often it is asked for.
    private final House trial;
    private final Steps[] risks;
    private final int[] riskPoints;
    private final Rules rules;
    private final Gauge gauge;
    private int hoursGone;

    public RoomClimate() {
        Steps goodsRows = new Steps(MOST_GOODS_ROWS);
        house = new House(goodsRows);
        trial = new House(goodsRows);
        risks = new Steps[KINDS_OF_RISK];
        for (int kind = 0; kind < KINDS_OF_RISK; kind++) {
            risks[kind] = new Steps(MOST_RISK_ROWS);
        }
        riskPoints = new int[KINDS_OF_RISK];
        rules = new Rules();
        gauge = new Gauge();
        hoursGone = 0;
    }

    public void room(int volume, int share) throws IllegalArgumentException {
        requireWithin(volume, 1, 1000);
        requireWithin(share, 0, 1000);
        house.inside.volume = volume;
        house.inside.share = share;
    }

    public int wall(int conductance, int capacity) throws IllegalStateException, IllegalArgumentException {
        requireSpace(house.walls.layers, MOST_LAYERS);
        requireWithin(conductance, 0, 100);
        requireWithin(capacity, 1, 1000);
        return house.walls.append(conductance, capacity);
    }

    public int goods(int kilograms) throws IllegalArgumentException {
        requireWithin(kilograms, 0, 1000);
        int before = house.goods.kilograms;
        house.goods.kilograms = kilograms;
        return before;
    }

    public int row(int damp, int milligrams) throws IllegalStateException, IllegalArgumentException {
        Steps rows = house.goods.rows;
        requireSpace(rows.size, MOST_GOODS_ROWS);
        requireWithin(damp, 0, MOST_LEVEL);
        requireWithin(milligrams, 0, 10000);
        requireRise(rows, damp);
        return rows.append(damp, milligrams);
    }

    public void machine(int kind, int low, int high, int rate)
            throws IndexOutOfBoundsException, IllegalArgumentException {
        requireIndex(kind, KINDS_OF_MACHINE);
        requireWithin(low, -MOST_LEVEL, MOST_LEVEL);
        requireWithin(high, low, MOST_LEVEL);
        requireWithin(rate, 0, 100000);
        house.machines.install(kind, low, high, rate);
    }

    public int hour(int degrees, int damp, int visitors)
            throws IllegalStateException, IllegalArgumentException {
        requireSpace(hoursGone, MOST_HOURS);
        requireWithin(degrees, -MOST_LEVEL, MOST_LEVEL);
        requireWithin(damp, 0, MOST_LEVEL);
        requireWithin(visitors, 0, 99);
        house.pass(degrees, damp, visitors);
        addRiskPoints();
        rules.tell(hoursGone, house.inside);
        hoursGone++;
        return hoursGone - 1;
    }

    public int degrees() {
        return (int) house.inside.warmth();
    }

    public int damp() {
        return (int) house.inside.moisture();
    }

    public int layer(int k) throws IndexOutOfBoundsException {
        requireIndex(k, house.walls.layers);
        return (int) house.walls.warmth(k);
    }

    public int held() {
        return (int) house.goods.load;
    }

    public boolean on(int kind) throws IndexOutOfBoundsException {
        requireIndex(kind, KINDS_OF_MACHINE);
        return house.machines.running[kind];
    }

    public long book(int kind, int what) throws IndexOutOfBoundsException {
        requireIndex(what, KINDS_OF_CONTENT);
        if (kind == -1) {
            return what == HEAT ? house.inside.heat : house.inside.water;
        }
        requireIndex(kind, KINDS_OF_BOOK);
        return what == HEAT ? house.inside.heatBooks[kind] : house.inside.waterBooks[kind];
    }

    public boolean dew(int k) throws IndexOutOfBoundsException {
        requireIndex(k, house.walls.layers);
        return house.inside.moisture() > Math.max(house.walls.warmth(k), 0L);
    }

    public int risk(int kind, int level, int points)
            throws IndexOutOfBoundsException, IllegalStateException, IllegalArgumentException {
        requireIndex(kind, KINDS_OF_RISK);
        requireSpace(risks[kind].size, MOST_RISK_ROWS);
        requireWithin(level, -MOST_LEVEL, MOST_LEVEL);
        requireRise(risks[kind], level);
        requireWithin(points, 0, 1000);
        return risks[kind].append(level, points);
    }

    public int points(int kind) throws IndexOutOfBoundsException {
        requireIndex(kind, KINDS_OF_RISK);
        return riskPoints[kind];
    }

    public int rule(int kind, int level, int hold) throws IllegalStateException, IllegalArgumentException {
        requireSpace(rules.size, MOST_RULES);
        requireWithin(kind, 0, KINDS_OF_RULE - 1);
        requireWithin(level, -MOST_LEVEL, MOST_LEVEL);
        requireWithin(hold, 1, 99);
        return rules.append(kind, level, hold);
    }

    public int alarm(int rule, int k) throws IndexOutOfBoundsException {
        requireIndex(rule, rules.size);
        if (k < -1) {
            throw new IndexOutOfBoundsException("no alarm has such a number");
        }
        int told = rules.alarmCounts[rule];
        if (k == -1) {
            return told;
        }
        return k < told ? rules.alarmHours[rule][k] : NONE;
    }

    public void sensor(int hour, int v) throws IndexOutOfBoundsException, IllegalArgumentException {
        requireIndex(hour, hoursGone);
        requireWithin(v, -MOST_SENSED, MOST_SENSED);
        gauge.sense(hour, v);
    }

    public void check(int hour, int right)
            throws IndexOutOfBoundsException, IllegalStateException, IllegalArgumentException {
        requireIndex(hour, hoursGone);
        if (!gauge.sensed[hour]) {
            throw new IllegalStateException("this hour has no value to check");
        }
        requireWithin(right, -MOST_SENSED, MOST_SENSED);
        gauge.compare(hour, right);
    }

    public int corrected(int hour) throws IndexOutOfBoundsException {
        requireIndex(hour, hoursGone);
        return gauge.sensed[hour] ? gauge.values[hour] + gauge.drift(hour, hoursGone) : NOTHING_SENSED;
    }

    public int silent(int from) throws IndexOutOfBoundsException {
        requireIndex(from, hoursGone);
        return gauge.longestGap(from, hoursGone);
    }

    public int plan(int hours, int degrees, int damp) throws IllegalArgumentException {
        requireWithin(hours, 1, MOST_PLANNED_HOURS);
        requireWithin(degrees, -MOST_LEVEL, MOST_LEVEL);
        requireWithin(damp, 0, MOST_LEVEL);
        int best = LEAST_PLANNED;
        long least = costOfLevel(LEAST_PLANNED, hours, degrees, damp);
        for (int level = LEAST_PLANNED + PLAN_STEP; level <= MOST_PLANNED; level += PLAN_STEP) {
            long cost = costOfLevel(level, hours, degrees, damp);
            if (cost < least) {
                best = level;
                least = cost;
            }
        }
        return best;
    }

    public int count(int what) throws IndexOutOfBoundsException {
        switch (what) {
            case 0: return hoursGone;
            case 1: return house.walls.layers;
            case 2: return house.goods.rows.size;
            case 3: return rules.size;
            case 4: return gauge.checks;
            default: throw new IndexOutOfBoundsException("there is no such count");
        }
    }

    private void addRiskPoints() {
        for (int kind = 0; kind < KINDS_OF_RISK; kind++) {
            boolean byDegrees = kind >= FIRST_RISK_BY_DEGREES;
            long reading = byDegrees ? house.inside.warmth() : house.inside.moisture();
            riskPoints[kind] += risks[kind].amountFrom(reading);
        }
    }

    private long costOfLevel(int level, int hours, int degrees, int damp) {
        trial.copyFrom(house);
        trial.machines.install(WARMER, level, level + PLAN_BAND, house.machines.rateOr(WARMER, PLAN_RATE));
        long cost = 0;
        for (int h = 0; h < hours; h++) {
            trial.pass(degrees, damp, 0);
            cost += trial.machines.output(WARMER) + PLAN_FINE * distanceFromPlanned(trial.inside.warmth());
        }
        return cost;
    }

    private static long distanceFromPlanned(long degrees) {
        return Math.max(0L, Math.max(LEAST_PLANNED - degrees, degrees - MOST_PLANNED));
    }

    private static void requireIndex(int index, int size) {
        if (index < 0 || index >= size) {
            throw new IndexOutOfBoundsException("there is nothing with this number");
        }
    }

    private static void requireSpace(int size, int most) {
        if (size >= most) {
            throw new IllegalStateException("there are as many as there may be");
        }
    }

    private static void requireWithin(int value, int least, int most) {
        if (value < least || value > most) {
            throw new IllegalArgumentException("the number is outside its bounds");
        }
    }

    private static void requireRise(Steps steps, int level) {
        if (!steps.wouldRise(level)) {
            throw new IllegalArgumentException("it is not above that of the last row");
        }
    }

    /** "a by b". No divisor of the room is ever 0; the test makes that plain to see here. */
    private static long by(long a, long b) {
        return b > 0 ? Math.floorDiv(a, b) : 0L;
    }

    /** Rows of a rising level and an amount each. */
    private static final class Steps {
        private final int[] levels;
        private final int[] amounts;
        private int size;

        Steps(int most) {
            levels = new int[most];
            amounts = new int[most];
            size = 0;
        }

        boolean wouldRise(int level) {
            return size == 0 || level > levels[size - 1];
        }

        int append(int level, int amount) {
            levels[size] = level;
            amounts[size] = amount;
            size++;
            return size - 1;
        }

        /** The amount of the first row whose level is not below the reading, else of the last row. */
        int amountUpTo(long reading) {
            for (int k = 0; k < size; k++) {
                if (levels[k] >= reading) {
                    return amounts[k];
                }
            }
            return size > 0 ? amounts[size - 1] : 0;
        }

        /** The amount of the last row whose level is not above the reading. */
        int amountFrom(long reading) {
            int amount = 0;
            for (int k = 0; k < size && levels[k] <= reading; k++) {
                amount = amounts[k];
            }
            return amount;
        }
    }

    /** What is inside the walls, and the books of how it came there. */
    private static final class Interior {
        private final long[] heatBooks = new long[KINDS_OF_BOOK];
        private final long[] waterBooks = new long[KINDS_OF_BOOK];
        private int volume = 100;
        private int share = 100;
        private long heat = (long) volume * FIRST_DEGREES;
        private long water = (long) volume * FIRST_DAMP;

        long warmth() {
            return by(heat, volume);
        }

        long moisture() {
            return by(water, volume);
        }

        void gainHeat(int kind, long amount) {
            heat += amount;
            heatBooks[kind] += amount;
        }

        void gainWater(int kind, long amount) {
            water += amount;
            waterBooks[kind] += amount;
        }

        void exchangeAir(int degrees, int damp) {
            gainHeat(AIR, by(share * (degrees - warmth()) * volume, 1000));
            gainWater(AIR, by(share * (damp - moisture()) * volume, 1000));
        }

        void receive(int visitors) {
            gainHeat(VISITORS, 100L * visitors);
            gainWater(VISITORS, 50L * visitors);
        }

        void copyFrom(Interior other) {
            volume = other.volume;
            share = other.share;
            heat = other.heat;
            water = other.water;
        }
    }

    /** The layers, counted from the room outwards. */
    private static final class Walls {
        private final int[] conductances = new int[MOST_LAYERS];
        private final int[] capacities = new int[MOST_LAYERS];
        private final long[] heats = new long[MOST_LAYERS];
        private int layers = 0;

        int append(int conductance, int capacity) {
            conductances[layers] = conductance;
            capacities[layers] = capacity;
            heats[layers] = (long) capacity * FIRST_DEGREES;
            layers++;
            return layers - 1;
        }

        long warmth(int k) {
            return by(heats[k], capacities[k]);
        }

        void conduct(Interior inside, int outerDegrees) {
            for (int k = 0; k < layers; k++) {
                long innerDegrees = k == 0 ? inside.warmth() : warmth(k - 1);
                long flow = by(conductances[k] * (innerDegrees - warmth(k)), 100);
                if (k == 0) {
                    inside.gainHeat(WALLS, -flow);
                } else {
                    heats[k - 1] -= flow;
                }
                heats[k] += flow;
            }
            if (layers > 0) {
                int last = layers - 1;
                heats[last] += by(conductances[last] * (outerDegrees - warmth(last)), 100);
            }
        }

        void copyFrom(Walls other) {
            layers = other.layers;
            for (int k = 0; k < layers; k++) {
                conductances[k] = other.conductances[k];
                capacities[k] = other.capacities[k];
                heats[k] = other.heats[k];
            }
        }
    }

    /** Goods that hold water. */
    private static final class Goods {
        private final Steps rows;
        private int kilograms = 0;
        private long load = 0;

        Goods(Steps rows) {
            this.rows = rows;
        }

        void soak(Interior inside) {
            long due = (long) kilograms * rows.amountUpTo(inside.moisture());
            long taken = Math.min(by(due - load, 4), inside.water);
            load += taken;
            inside.gainWater(GOODS, -taken);
        }

        void copyFrom(Goods other) {
            kilograms = other.kilograms;
            load = other.load;
        }
    }

    /** The four machines, by their kinds. */
    private static final class Machines {
        private final int[] lows = new int[KINDS_OF_MACHINE];
        private final int[] highs = new int[KINDS_OF_MACHINE];
        private final int[] rates = new int[KINDS_OF_MACHINE];
        private final boolean[] told = new boolean[KINDS_OF_MACHINE];
        private final boolean[] running = new boolean[KINDS_OF_MACHINE];

        void install(int kind, int low, int high, int rate) {
            lows[kind] = low;
            highs[kind] = high;
            rates[kind] = rate;
            told[kind] = true;
            running[kind] = false;
        }

        int rateOr(int kind, int rateIfNone) {
            return told[kind] ? rates[kind] : rateIfNone;
        }

        /** What a machine brought to the latest hour: it is still on, or off, as it was at work. */
        int output(int kind) {
            return running[kind] ? rates[kind] : 0;
        }

        void work(Interior inside) {
            steer(WARMER, inside.warmth());
            inside.gainHeat(MACHINES, output(WARMER));
            steer(COOLER, inside.warmth());
            inside.gainHeat(MACHINES, -output(COOLER));
            steer(DAMPER, inside.moisture());
            inside.gainWater(MACHINES, output(DAMPER));
            steer(DRYER, inside.moisture());
            inside.gainWater(MACHINES, -Math.min(output(DRYER), inside.water));
        }

        private void steer(int kind, long reading) {
            if (!told[kind]) {
                return;
            }
            boolean adds = kind == WARMER || kind == DAMPER;
            if (reading < lows[kind]) {
                running[kind] = adds;
            } else if (reading > highs[kind]) {
                running[kind] = !adds;
            }
        }

        void copyFrom(Machines other) {
            for (int kind = 0; kind < KINDS_OF_MACHINE; kind++) {
                lows[kind] = other.lows[kind];
                highs[kind] = other.highs[kind];
                rates[kind] = other.rates[kind];
                told[kind] = other.told[kind];
                running[kind] = other.running[kind];
            }
        }
    }

    /** All that an hour changes: the room with what belongs to it. */
    private static final class House {
        private final Interior inside = new Interior();
        private final Walls walls = new Walls();
        private final Goods goods;
        private final Machines machines = new Machines();

        House(Steps goodsRows) {
            goods = new Goods(goodsRows);
        }

        void pass(int degrees, int damp, int visitors) {
            inside.exchangeAir(degrees, damp);
            walls.conduct(inside, degrees);
            goods.soak(inside);
            inside.receive(visitors);
            machines.work(inside);
        }

        // The books are left out: a trial needs none. The goods' rows are shared by both.
        void copyFrom(House other) {
            inside.copyFrom(other.inside);
            walls.copyFrom(other.walls);
            goods.copyFrom(other.goods);
            machines.copyFrom(other.machines);
        }
    }

    /** The rules, and the alarms that were told by them. */
    private static final class Rules {
        private final int[] kinds = new int[MOST_RULES];
        private final int[] levels = new int[MOST_RULES];
        private final int[] holds = new int[MOST_RULES];
        private final int[] alarmCounts = new int[MOST_RULES];
        private final int[][] alarmHours = new int[MOST_RULES][MOST_HOURS];
        private int size = 0;

        int append(int kind, int level, int hold) {
            kinds[size] = kind;
            levels[size] = level;
            holds[size] = hold;
            size++;
            return size - 1;
        }

        void tell(int hour, Interior inside) {
            for (int r = 0; r < size; r++) {
                if (isBroken(r, inside) && !isHeld(r, hour)) {
                    alarmHours[r][alarmCounts[r]] = hour;
                    alarmCounts[r]++;
                }
            }
        }

        private boolean isBroken(int r, Interior inside) {
            switch (kinds[r]) {
                case DEGREES_ABOVE: return inside.warmth() > levels[r];
                case DEGREES_BELOW: return inside.warmth() < levels[r];
                case DAMP_ABOVE: return inside.moisture() > levels[r];
                case DAMP_BELOW: return inside.moisture() < levels[r];
                default: return false;
            }
        }

        private boolean isHeld(int r, int hour) {
            int told = alarmCounts[r];
            return told > 0 && hour - alarmHours[r][told - 1] < holds[r];
        }
    }

    /** The sensor's values by hours, and the checks of them. */
    private static final class Gauge {
        private final int[] values = new int[MOST_HOURS];
        private final boolean[] sensed = new boolean[MOST_HOURS];
        private final int[] rights = new int[MOST_HOURS];
        private final boolean[] checked = new boolean[MOST_HOURS];
        private int checks = 0;

        void sense(int hour, int value) {
            values[hour] = value;
            sensed[hour] = true;
        }

        void compare(int hour, int right) {
            if (!checked[hour]) {
                checks++;
            }
            rights[hour] = right;
            checked[hour] = true;
        }

        /** The drift at an hour, where so many hours were. */
        int drift(int hour, int hours) {
            int earlier = lastCheckUpTo(hour);
            int later = firstCheckFrom(hour, hours);
            if (earlier == NONE) {
                return later == NONE ? 0 : driftOfCheck(later);
            }
            if (later == NONE || later == earlier) {
                return driftOfCheck(earlier);
            }
            int change = driftOfCheck(later) - driftOfCheck(earlier);
            return driftOfCheck(earlier) + (int) by((long) change * (hour - earlier), later - earlier);
        }

        private int driftOfCheck(int hour) {
            return rights[hour] - values[hour];
        }

        private int lastCheckUpTo(int hour) {
            for (int h = hour; h >= 0; h--) {
                if (checked[h]) {
                    return h;
                }
            }
            return NONE;
        }

        private int firstCheckFrom(int hour, int hours) {
            for (int h = hour; h < hours; h++) {
                if (checked[h]) {
                    return h;
                }
            }
            return NONE;
        }

        /** Where the longest gap among the hours begins; what lies ahead of the first one counts for nothing. */
        int longestGap(int from, int hours) {
            int best = NONE;
            int longest = 0;
            int length = 0;
            for (int h = from; h < hours; h++) {
                length = sensed[h] ? 0 : length + 1;
                if (length > longest) {
                    longest = length;
                    best = h - length + 1;
                }
            }
            return best;
        }
    }
}
