/** Promises 15 to 18: risk, points, rule, alarm. */
public final class RiskAndAlarmTest {
    private static final Tester t = new Tester();

    public static void main(String[] args) {
        riskRowsAreNumbered();
        riskRefuses();
        pointsRefuse();
        pointsByTheLastRowNotAbove();
        risksReadDampOrDegrees();
        pointsAreCountedBehindAll();
        rulesAreNumbered();
        ruleRefuses();
        alarmRefuses();
        alarmsByKinds();
        alarmsHold();
        aLaterRuleKnowsOnlyLaterHours();
        threeHundredAlarms();
        t.end();
    }

    /** A room of volume 1 whose air is all new each hour: degrees and damp are those outside. */
    private static RoomClimate openRoom() {
        RoomClimate x = new RoomClimate();
        x.room(1, 1000);
        return x;
    }

    private static void riskRowsAreNumbered() {
        RoomClimate x = new RoomClimate();
        for (int kind = 0; kind < 4; kind++) {
            int k = kind;
            t.due("risk row 0 of " + kind, x.risk(kind, -60000, 0), 0);
            t.due("risk row 1 of " + kind, x.risk(kind, -59999, 1000), 1);
            t.due("risk row 2 of " + kind, x.risk(kind, 0, 5), 2);
            t.due("risk row 3 of " + kind, x.risk(kind, 1, 5), 3);
            t.due("risk row 4 of " + kind, x.risk(kind, 59999, 5), 4);
            t.refused("a sixth row of " + kind, Tester.STATE, x, () -> x.risk(k, 60000, 5));
            t.refused("a sixth row, and wrong, of " + kind, Tester.STATE, x, () -> x.risk(k, 60001, -1));
        }
        RoomClimate y = new RoomClimate();
        t.due("the highest level", y.risk(0, 60000, 5), 0);
    }

    private static void riskRefuses() {
        RoomClimate x = new RoomClimate();
        for (int kind : new int[] {-1, 4, Integer.MIN_VALUE, Integer.MAX_VALUE}) {
            t.refused("risk(" + kind + ", 0, 0)", Tester.INDEX, x, () -> x.risk(kind, 0, 0));
            t.refused("risk(" + kind + ", wrong)", Tester.INDEX, x, () -> x.risk(kind, 60001, -1));
        }
        t.refused("risk(1, -60001, 5)", Tester.ARGUMENT, x, () -> x.risk(1, -60001, 5));
        x.risk(1, 500, 5);
        int[][] wrong = {
            {60001, 5}, {-60001, 5}, {500, 5}, {499, 5}, {600, -1}, {600, 1001}, {Integer.MAX_VALUE, 5},
            {600, Integer.MIN_VALUE}
        };
        for (int[] w : wrong) {
            t.refused("risk(1, " + w[0] + ", " + w[1] + ")", Tester.ARGUMENT, x, () -> x.risk(1, w[0], w[1]));
        }
        t.due("risk behind refused ones", x.risk(1, 501, 3), 1);
        t.due("the first row of another risk may be lower", x.risk(2, 499, 3), 0);
    }

    private static void pointsRefuse() {
        RoomClimate x = new RoomClimate();
        for (int kind : new int[] {-1, 4, Integer.MIN_VALUE, Integer.MAX_VALUE}) {
            t.refused("points(" + kind + ")", Tester.INDEX, x, () -> x.points(kind));
        }
    }

    private static void pointsByTheLastRowNotAbove() {
        RoomClimate x = openRoom();
        x.risk(2, -100, 7);
        x.risk(2, 0, 3);
        x.risk(2, 500, 100);
        int[] degrees = {-101, -100, -1, 0, 499, 500, 60000};
        int[] added = {0, 7, 7, 3, 3, 100, 100};
        int sum = 0;
        for (int h = 0; h < degrees.length; h++) {
            x.hour(degrees[h], 0, 0);
            sum += added[h];
            t.due("points at " + degrees[h], x.points(2), sum);
        }
        t.due("points of a risk without rows", x.points(3), 0);
    }

    private static void risksReadDampOrDegrees() {
        RoomClimate x = openRoom();
        for (int kind = 0; kind < 4; kind++) {
            x.risk(kind, 1000, 1 + kind);
        }
        x.hour(999, 1000, 0);
        t.due("risk 0 by damp", x.points(0), 1);
        t.due("risk 1 by damp", x.points(1), 2);
        t.due("risk 2 not by damp", x.points(2), 0);
        t.due("risk 3 not by damp", x.points(3), 0);
        x.hour(1000, 999, 0);
        t.due("risk 0 not by degrees", x.points(0), 1);
        t.due("risk 1 not by degrees", x.points(1), 2);
        t.due("risk 2 by degrees", x.points(2), 3);
        t.due("risk 3 by degrees", x.points(3), 4);
    }

    private static void pointsAreCountedBehindAll() {
        RoomClimate x = openRoom();
        x.machine(0, 10000, 10000, 500);
        x.risk(2, 5500, 9);
        x.rule(0, 5499, 1);
        x.hour(5000, 0, 0);
        t.due("points behind the warmer", x.points(2), 9);
        t.due("alarms behind the warmer", x.alarm(0, -1), 1);
    }

    private static void rulesAreNumbered() {
        RoomClimate x = new RoomClimate();
        t.due("rule 0", x.rule(0, -60000, 1), 0);
        t.due("rule 1", x.rule(1, 60000, 99), 1);
        t.due("rule 2", x.rule(2, 0, 50), 2);
        t.due("rule 3", x.rule(3, 0, 50), 3);
        t.due("rules", x.count(3), 4);
        t.refused("a fifth rule", Tester.STATE, x, () -> x.rule(0, 0, 1));
        t.refused("a fifth rule, and wrong", Tester.STATE, x, () -> x.rule(4, 60001, 0));
    }

    private static void ruleRefuses() {
        RoomClimate x = new RoomClimate();
        int[][] wrong = {
            {-1, 0, 1}, {4, 0, 1}, {0, -60001, 1}, {0, 60001, 1}, {0, 0, 0}, {0, 0, 100}, {0, 0, -1},
            {Integer.MAX_VALUE, 0, 1}, {0, Integer.MIN_VALUE, 1}, {0, 0, Integer.MAX_VALUE}
        };
        for (int[] w : wrong) {
            String call = "rule(" + w[0] + ", " + w[1] + ", " + w[2] + ")";
            t.refused(call, Tester.ARGUMENT, x, () -> x.rule(w[0], w[1], w[2]));
        }
        t.due("rule behind refused ones", x.rule(0, 0, 1), 0);
    }

    private static void alarmRefuses() {
        RoomClimate x = new RoomClimate();
        t.refused("alarm(0, -1) without rules", Tester.INDEX, x, () -> x.alarm(0, -1));
        x.rule(0, 0, 1);
        for (int rule : new int[] {-1, 1, 3, 4, Integer.MIN_VALUE, Integer.MAX_VALUE}) {
            t.refused("alarm(" + rule + ", 0)", Tester.INDEX, x, () -> x.alarm(rule, 0));
        }
        for (int k : new int[] {-2, -3, Integer.MIN_VALUE}) {
            t.refused("alarm(0, " + k + ")", Tester.INDEX, x, () -> x.alarm(0, k));
        }
        t.due("alarms of a new rule", x.alarm(0, -1), 0);
        for (int k : new int[] {0, 1, 299, 300, Integer.MAX_VALUE}) {
            t.due("alarm(0, " + k + ")", x.alarm(0, k), RoomClimate.NONE);
        }
    }

    private static void alarmsByKinds() {
        RoomClimate x = openRoom();
        for (int kind = 0; kind < 4; kind++) {
            x.rule(kind, 1000, 1);
        }
        int[][] hours = {{1000, 1000}, {1001, 1000}, {999, 1000}, {1000, 1001}, {1000, 999}, {999, 1001}};
        for (int[] h : hours) {
            x.hour(h[0], h[1], 0);
        }
        int[][] due = {{1}, {2, 5}, {3, 5}, {4}};
        for (int rule = 0; rule < 4; rule++) {
            t.due("alarms of rule " + rule, x.alarm(rule, -1), due[rule].length);
            for (int k = 0; k < due[rule].length; k++) {
                t.due("alarm " + k + " of rule " + rule, x.alarm(rule, k), due[rule][k]);
            }
            t.due("one more of rule " + rule, x.alarm(rule, due[rule].length), RoomClimate.NONE);
        }
    }

    private static void alarmsHold() {
        RoomClimate x = openRoom();
        x.rule(0, 1000, 1);
        x.rule(0, 1000, 3);
        x.rule(0, 1000, 99);
        for (int h = 0; h < 200; h++) {
            boolean quiet = h == 0 || h == 4 || h == 100;
            x.hour(quiet ? 0 : 2000, 0, 0);
        }
        t.due("alarms with hold 1", x.alarm(0, -1), 197);
        int[] due = {1, 5, 8, 11};
        for (int k = 0; k < due.length; k++) {
            t.due("alarm " + k + " with hold 3", x.alarm(1, k), due[k]);
        }
        t.due("alarms with hold 99", x.alarm(2, -1), 2);
        t.due("alarm 0 with hold 99", x.alarm(2, 0), 1);
        t.due("alarm 1 with hold 99", x.alarm(2, 1), 101);
        t.due("one more with hold 99", x.alarm(2, 2), RoomClimate.NONE);
    }

    private static void aLaterRuleKnowsOnlyLaterHours() {
        RoomClimate x = openRoom();
        x.hour(2000, 0, 0);
        x.hour(2000, 0, 0);
        x.rule(0, 1000, 5);
        t.due("alarms before an hour", x.alarm(0, -1), 0);
        x.hour(2000, 0, 0);
        t.due("alarms of the later rule", x.alarm(0, -1), 1);
        t.due("its hour", x.alarm(0, 0), 2);
    }

    private static void threeHundredAlarms() {
        RoomClimate x = openRoom();
        for (int r = 0; r < 4; r++) {
            x.rule(0, -60000, 1);
        }
        for (int h = 0; h < 300; h++) {
            x.hour(0, 0, 0);
        }
        for (int r = 0; r < 4; r++) {
            t.due("alarms in all hours", x.alarm(r, -1), 300);
            t.due("the last alarm", x.alarm(r, 299), 299);
            t.due("one more", x.alarm(r, 300), RoomClimate.NONE);
        }
    }
}
