import java.math.BigInteger;
import java.util.ArrayList;
import java.util.List;
import java.util.TreeMap;

/**
 * The document once more, written as plainly as can be and with numbers of any size, to hold the
 * program against. It throws nothing: the caller asks it only what the document answers.
 */
final class PlainRoom {
    record Row(int level, int amount) { }

    static final class Layer {
        int conductance;
        int capacity;
        BigInteger heat;
    }

    static final class Machine {
        int low;
        int high;
        int rate;
        boolean on;
    }

    static final class Rule {
        int kind;
        int level;
        int hold;
        final List<Integer> alarms = new ArrayList<>();
    }

    int volume = 100;
    int share = 100;
    BigInteger heat = big(2000000);
    BigInteger water = big(1000000);
    final List<Layer> layers = new ArrayList<>();
    int kilograms = 0;
    BigInteger held = big(0);
    final List<Row> rows = new ArrayList<>();
    final Machine[] machines = new Machine[4];
    final BigInteger[][] books = new BigInteger[5][2];
    final List<List<Row>> risks = new ArrayList<>();
    final int[] points = new int[4];
    final List<Rule> rules = new ArrayList<>();
    final TreeMap<Integer, Integer> values = new TreeMap<>();
    final TreeMap<Integer, Integer> rights = new TreeMap<>();
    int hours = 0;

    PlainRoom() {
        for (BigInteger[] book : books) {
            book[0] = big(0);
            book[1] = big(0);
        }
        for (int kind = 0; kind < 4; kind++) {
            risks.add(new ArrayList<>());
        }
    }

    static BigInteger big(long n) {
        return BigInteger.valueOf(n);
    }

    static BigInteger by(BigInteger a, long b) {
        BigInteger[] parts = a.divideAndRemainder(big(b));
        return parts[1].signum() < 0 ? parts[0].subtract(big(1)) : parts[0];
    }

    BigInteger degrees() {
        return by(heat, volume);
    }

    BigInteger damp() {
        return by(water, volume);
    }

    BigInteger layerDegrees(int k) {
        return by(layers.get(k).heat, layers.get(k).capacity);
    }

    boolean dew(int k) {
        BigInteger d = layerDegrees(k);
        return d.signum() < 0 ? damp().signum() > 0 : damp().compareTo(d) > 0;
    }

    int addWall(int conductance, int capacity) {
        Layer layer = new Layer();
        layer.conductance = conductance;
        layer.capacity = capacity;
        layer.heat = big(capacity * 20000L);
        layers.add(layer);
        return layers.size() - 1;
    }

    void setMachine(int kind, int low, int high, int rate) {
        machines[kind] = new Machine();
        machines[kind].low = low;
        machines[kind].high = high;
        machines[kind].rate = rate;
    }

    int addRule(int kind, int level, int hold) {
        Rule rule = new Rule();
        rule.kind = kind;
        rule.level = level;
        rule.hold = hold;
        rules.add(rule);
        return rules.size() - 1;
    }

    private void addHeat(int kind, BigInteger amount) {
        heat = heat.add(amount);
        books[kind][0] = books[kind][0].add(amount);
    }

    private void addWater(int kind, BigInteger amount) {
        water = water.add(amount);
        books[kind][1] = books[kind][1].add(amount);
    }

    /** Answers what the warmer added. */
    private int physics(int d, int w, int n) {
        addHeat(0, by(big(share).multiply(big(d).subtract(degrees())).multiply(big(volume)), 1000));
        addWater(0, by(big(share).multiply(big(w).subtract(damp())).multiply(big(volume)), 1000));
        for (int k = 0; k < layers.size(); k++) {
            Layer layer = layers.get(k);
            BigInteger inner = k == 0 ? degrees() : layerDegrees(k - 1);
            BigInteger flow = by(big(layer.conductance).multiply(inner.subtract(layerDegrees(k))), 100);
            if (k == 0) {
                addHeat(1, flow.negate());
            } else {
                layers.get(k - 1).heat = layers.get(k - 1).heat.subtract(flow);
            }
            layer.heat = layer.heat.add(flow);
        }
        if (!layers.isEmpty()) {
            Layer last = layers.get(layers.size() - 1);
            BigInteger gap = big(d).subtract(layerDegrees(layers.size() - 1));
            last.heat = last.heat.add(by(big(last.conductance).multiply(gap), 100));
        }
        BigInteger taken = by(big((long) kilograms * milligrams()).subtract(held), 4).min(water);
        held = held.add(taken);
        addWater(2, taken.negate());
        addHeat(3, big(100L * n));
        addWater(3, big(50L * n));
        return runMachines();
    }

    private int milligrams() {
        for (Row row : rows) {
            if (damp().compareTo(big(row.level)) <= 0) {
                return row.amount;
            }
        }
        return rows.isEmpty() ? 0 : rows.get(rows.size() - 1).amount;
    }

    private int runMachines() {
        int warmed = 0;
        for (int kind = 0; kind < 4; kind++) {
            Machine m = machines[kind];
            if (m == null) {
                continue;
            }
            BigInteger reading = kind < 2 ? degrees() : damp();
            boolean below = reading.compareTo(big(m.low)) < 0;
            boolean above = reading.compareTo(big(m.high)) > 0;
            boolean giver = kind == 0 || kind == 2;
            m.on = (giver ? below : above) || m.on && !(giver ? above : below);
            if (!m.on) {
                continue;
            }
            switch (kind) {
                case 0 -> {
                    addHeat(4, big(m.rate));
                    warmed = m.rate;
                }
                case 1 -> addHeat(4, big(-m.rate));
                case 2 -> addWater(4, big(m.rate));
                default -> addWater(4, big(m.rate).min(water).negate());
            }
        }
        return warmed;
    }

    int hour(int d, int w, int n) {
        physics(d, w, n);
        for (int kind = 0; kind < 4; kind++) {
            BigInteger reading = kind < 2 ? damp() : degrees();
            int add = 0;
            for (Row row : risks.get(kind)) {
                if (big(row.level).compareTo(reading) <= 0) {
                    add = row.amount;
                }
            }
            points[kind] += add;
        }
        for (Rule rule : rules) {
            BigInteger reading = rule.kind < 2 ? degrees() : damp();
            int side = reading.compareTo(big(rule.level));
            boolean broken = rule.kind % 2 == 0 ? side > 0 : side < 0;
            List<Integer> told = rule.alarms;
            if (broken && (told.isEmpty() || hours - told.get(told.size() - 1) >= rule.hold)) {
                told.add(hours);
            }
        }
        return hours++;
    }

    int corrected(int hour) {
        if (!values.containsKey(hour)) {
            return -200000;
        }
        Integer b = rights.floorKey(hour);
        Integer c = rights.ceilingKey(hour);
        int drift = 0;
        if (b != null && c != null && !b.equals(c)) {
            long rise = driftAt(c) - driftAt(b);
            drift = (int) (driftAt(b) + by(big(rise * (hour - b)), c - b).longValue());
        } else if (b != null) {
            drift = (int) driftAt(b);
        } else if (c != null) {
            drift = (int) driftAt(c);
        }
        return values.get(hour) + drift;
    }

    private long driftAt(int hour) {
        return rights.get(hour) - values.get(hour);
    }

    int silent(int from) {
        int best = -1;
        int longest = 0;
        for (int start = from; start < hours; start++) {
            int end = start;
            while (end < hours && !values.containsKey(end)) {
                end++;
            }
            if (end - start > longest) {
                longest = end - start;
                best = start;
            }
        }
        return best;
    }

    int plan(int planned, int d, int w) {
        int best = -1;
        BigInteger least = null;
        for (int level = 18000; level <= 22000; level += 500) {
            PlainRoom trial = copy();
            trial.setMachine(0, level, level + 500, machines[0] == null ? 5000 : machines[0].rate);
            BigInteger cost = big(0);
            for (int h = 0; h < planned; h++) {
                cost = cost.add(big(trial.physics(d, w, 0)));
                BigInteger below = big(18000).subtract(trial.degrees());
                BigInteger above = trial.degrees().subtract(big(22000));
                cost = cost.add(big(100).multiply(below.max(above).max(big(0))));
            }
            if (least == null || cost.compareTo(least) < 0) {
                least = cost;
                best = level;
            }
        }
        return best;
    }

    private PlainRoom copy() {
        PlainRoom other = new PlainRoom();
        other.volume = volume;
        other.share = share;
        other.heat = heat;
        other.water = water;
        for (Layer layer : layers) {
            other.addWall(layer.conductance, layer.capacity);
            other.layers.get(other.layers.size() - 1).heat = layer.heat;
        }
        other.kilograms = kilograms;
        other.held = held;
        other.rows.addAll(rows);
        for (int kind = 0; kind < 4; kind++) {
            if (machines[kind] != null) {
                other.setMachine(kind, machines[kind].low, machines[kind].high, machines[kind].rate);
                other.machines[kind].on = machines[kind].on;
            }
        }
        return other;
    }
}
