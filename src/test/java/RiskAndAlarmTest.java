/** Promises 15 to 18: risk, points, rule, alarm. */
public final class RiskAndAlarmTest {
    private static final Tester t = new Tester();

    public static void main(String[] args) {
        pointsByTheLastRowNotAbove();
        risksReadDampOrDegrees();
        pointsAtTheOutermostLevels();
        pointsAtTheirEdges();
        pointsAreCountedBehindAll();
        aLaterRowCountsInLaterHours();
        alarmsThatWereNotTold();
        alarmsByKinds();
        alarmsAtTheOutermostLevels();
        alarmsHold();
        alarmsHoldToTheHour();
        theHoldRunsFromTheLatestAlarm();
        eachRuleHoldsByItself();
        aLaterRuleKnowsOnlyLaterHours();
        t.end();
    }

    /** A room of volume 1 whose air is all new each hour: degrees and damp are those outside. */
    private static RoomClimate openRoom() {
        RoomClimate x = new RoomClimate();
        x.room(1, 1000);
        return x;
    }

    private static void pointsByTheLastRowNotAbove() {
        RoomClimate x = openRoom();
        x.risk(2, -100, 7);
        x.risk(2, 0, 3);
        x.risk(2, 500, 100);
        int[] degrees = {-101, -100, -1, 0, 499, 500, 60000};
        int[] added = {0, 7, 7, 3, 3, 100, 100};
        int sum = 0;
        for (int h = 0; h < degrees.length; h++) {
            x.hour(degrees[h], 0, 0);
            sum += added[h];
            t.due("points at " + degrees[h], x.points(2), sum);
        }
        t.due("points of a risk without rows", x.points(3), 0);
    }

    private static void risksReadDampOrDegrees() {
        RoomClimate x = openRoom();
        for (int kind = 0; kind < 4; kind++) {
            x.risk(kind, 1000, 1 + kind);
        }
        x.hour(999, 1000, 0);
        t.due("risk 0 by damp", x.points(0), 1);
        t.due("risk 1 by damp", x.points(1), 2);
        t.due("risk 2 not by damp", x.points(2), 0);
        t.due("risk 3 not by damp", x.points(3), 0);
        x.hour(1000, 999, 0);
        t.due("risk 0 not by degrees", x.points(0), 1);
        t.due("risk 1 not by degrees", x.points(1), 2);
        t.due("risk 2 by degrees", x.points(2), 3);
        t.due("risk 3 by degrees", x.points(3), 4);
    }

    private static void pointsAtTheOutermostLevels() {
        for (int kind = 0; kind < 4; kind++) {
            RoomClimate x = openRoom();
            x.risk(kind, -60000, 1);
            x.risk(kind, 0, 10);
            x.risk(kind, 60000, 100);
            x.hour(-60000, 0, 0);
            t.due("points of " + kind + " at the least", x.points(kind), kind < 2 ? 10 : 1);
            x.hour(-1, 0, 0);
            t.due("points of " + kind + " at -1 and 0", x.points(kind), kind < 2 ? 20 : 2);
            x.hour(0, 0, 0);
            t.due("points of " + kind + " at 0", x.points(kind), kind < 2 ? 30 : 12);
            x.hour(59999, 59999, 0);
            t.due("points of " + kind + " at 59999", x.points(kind), kind < 2 ? 40 : 22);
            x.hour(60000, 60000, 0);
            t.due("points of " + kind + " at 60000", x.points(kind), kind < 2 ? 140 : 122);
        }
        RoomClimate cold = extremeRoom(-60000, true);
        cold.risk(2, -60000, 5);
        cold.hour(0, 0, 0);
        t.due("points below the least level", cold.points(2), 0);
    }

    private static void pointsAtTheirEdges() {
        RoomClimate x = openRoom();
        x.risk(0, 0, 1000);
        x.risk(1, 0, 0);
        x.risk(2, 0, 1000);
        x.risk(2, 100, 0);
        for (int h = 0; h < 300; h++) {
            x.hour(h < 299 ? 0 : 100, 0, 0);
        }
        t.due("the most points", x.points(0), 300000);
        t.due("the least points", x.points(1), 0);
        t.due("the last row counts, though its points are fewer", x.points(2), 299000);
        t.due("points without rows", x.points(3), 0);
    }

    private static void pointsAreCountedBehindAll() {
        RoomClimate x = openRoom();
        x.machine(0, 10000, 10000, 500);
        x.risk(2, 5500, 9);
        x.rule(0, 5499, 1);
        x.hour(5000, 0, 0);
        t.due("points behind the warmer", x.points(2), 9);
        t.due("alarms behind the warmer", x.alarm(0, -1), 1);
    }

    private static void aLaterRowCountsInLaterHours() {
        RoomClimate x = openRoom();
        x.hour(500, 500, 0);
        x.risk(2, 500, 4);
        t.due("points before an hour", x.points(2), 0);
        x.hour(500, 500, 0);
        x.risk(2, 501, 40);
        x.hour(501, 500, 0);
        t.due("points of both rows", x.points(2), 44);
    }

    private static void alarmsThatWereNotTold() {
        RoomClimate x = openRoom();
        x.rule(0, 1000, 1);
        t.due("alarms of a new rule", x.alarm(0, -1), 0);
        for (int k : new int[] {0, 1, 299, 300, Integer.MAX_VALUE}) {
            t.due("alarm(0, " + k + ") of a new rule", x.alarm(0, k), RoomClimate.NONE);
        }
        x.hour(1000, 0, 0);
        t.due("alarms at just the level", x.alarm(0, -1), 0);
        x.hour(1001, 0, 0);
        x.hour(1001, 0, 0);
        t.due("alarms", x.alarm(0, -1), 2);
        int[] due = {1, 2, RoomClimate.NONE, RoomClimate.NONE};
        for (int k = 0; k < due.length; k++) {
            t.due("alarm(0, " + k + ")", x.alarm(0, k), due[k]);
        }
        for (int k : new int[] {299, 300, Integer.MAX_VALUE}) {
            t.due("alarm(0, " + k + ")", x.alarm(0, k), RoomClimate.NONE);
        }
    }

    /** A room at -60000 or 60000 degrees, or just beyond by a volume of 999; the damp is 0 or 60000 so, too. */
    private static RoomClimate extremeRoom(int degrees, boolean beyond) {
        RoomClimate x = new RoomClimate();
        x.room(1000, 1000);
        x.hour(degrees, Math.max(degrees, 0), 0);
        x.room(beyond ? 999 : 1000, 0);
        return x;
    }

    private static void alarmsAtTheOutermostLevels() {
        for (boolean beyond : new boolean[] {false, true}) {
            RoomClimate cold = extremeRoom(-60000, beyond);
            cold.rule(0, -60000, 1);
            cold.rule(1, -60000, 1);
            cold.rule(2, -60000, 1);
            cold.rule(3, -60000, 1);
            cold.hour(0, 0, 0);
            t.due("degrees above -60000 in the cold", cold.alarm(0, -1), 0);
            t.due("degrees below -60000, beyond: " + beyond, cold.alarm(1, -1), beyond ? 1 : 0);
            t.due("damp above -60000", cold.alarm(2, -1), 1);
            t.due("damp below -60000", cold.alarm(3, -1), 0);
            RoomClimate warm = extremeRoom(60000, beyond);
            warm.rule(0, 60000, 1);
            warm.rule(1, 60000, 1);
            warm.rule(2, 60000, 1);
            warm.rule(3, 60000, 1);
            warm.hour(0, 0, 0);
            t.due("degrees above 60000, beyond: " + beyond, warm.alarm(0, -1), beyond ? 1 : 0);
            t.due("degrees below 60000", warm.alarm(1, -1), 0);
            t.due("damp above 60000, beyond: " + beyond, warm.alarm(2, -1), beyond ? 1 : 0);
            t.due("damp below 60000", warm.alarm(3, -1), 0);
        }
        RoomClimate dry = openRoom();
        dry.rule(2, 0, 1);
        dry.rule(3, 0, 1);
        dry.rule(2, -1, 1);
        dry.rule(3, 1, 1);
        dry.hour(0, 0, 0);
        t.due("damp 0 above 0", dry.alarm(0, -1), 0);
        t.due("damp 0 below 0", dry.alarm(1, -1), 0);
        t.due("damp 0 above -1", dry.alarm(2, -1), 1);
        t.due("damp 0 below 1", dry.alarm(3, -1), 1);
    }

    /** In a run of hours that all end so, an alarm comes just every HOLD hours. */
    private static void alarmsHoldToTheHour() {
        for (int hold : new int[] {1, 2, 3, 98, 99}) {
            RoomClimate x = openRoom();
            x.rule(0, 1000, hold);
            for (int h = 0; h < 200; h++) {
                x.hour(2000, 0, 0);
            }
            int told = 1 + 199 / hold;
            t.due("alarms with hold " + hold, x.alarm(0, -1), told);
            for (int k = 0; k < Math.min(told, 5); k++) {
                t.due("alarm " + k + " with hold " + hold, x.alarm(0, k), k * hold);
            }
        }
    }

    /** An hour that is held back is no alarm, so the hold does not begin anew with it. */
    private static void theHoldRunsFromTheLatestAlarm() {
        RoomClimate x = openRoom();
        x.rule(0, 1000, 4);
        boolean[] broken = {true, false, false, true, false, true, true, false, true, true, true};
        for (boolean b : broken) {
            x.hour(b ? 2000 : 0, 0, 0);
        }
        int[] due = {0, 5, 9, RoomClimate.NONE};
        for (int k = 0; k < due.length; k++) {
            t.due("alarm " + k, x.alarm(0, k), due[k]);
        }
        t.due("alarms", x.alarm(0, -1), 3);
    }

    private static void eachRuleHoldsByItself() {
        RoomClimate x = openRoom();
        x.rule(0, 1000, 3);
        x.rule(0, 3000, 3);
        int[] degrees = {2000, 4000, 4000, 4000, 4000, 4000};
        for (int d : degrees) {
            x.hour(d, 0, 0);
        }
        t.due("the first rule's alarms", x.alarm(0, 0) + " " + x.alarm(0, 1) + " " + x.alarm(0, 2), "0 3 -1");
        t.due("the second rule's alarms", x.alarm(1, 0) + " " + x.alarm(1, 1) + " " + x.alarm(1, 2), "1 4 -1");
    }

    private static void alarmsByKinds() {
        RoomClimate x = openRoom();
        for (int kind = 0; kind < 4; kind++) {
            x.rule(kind, 1000, 1);
        }
        int[][] hours = {{1000, 1000}, {1001, 1000}, {999, 1000}, {1000, 1001}, {1000, 999}, {999, 1001}};
        for (int[] h : hours) {
            x.hour(h[0], h[1], 0);
        }
        int[][] due = {{1}, {2, 5}, {3, 5}, {4}};
        for (int rule = 0; rule < 4; rule++) {
            t.due("alarms of rule " + rule, x.alarm(rule, -1), due[rule].length);
            for (int k = 0; k < due[rule].length; k++) {
                t.due("alarm " + k + " of rule " + rule, x.alarm(rule, k), due[rule][k]);
            }
            t.due("one more of rule " + rule, x.alarm(rule, due[rule].length), RoomClimate.NONE);
        }
    }

    private static void alarmsHold() {
        RoomClimate x = openRoom();
        x.rule(0, 1000, 1);
        x.rule(0, 1000, 3);
        x.rule(0, 1000, 99);
        for (int h = 0; h < 200; h++) {
            boolean quiet = h == 0 || h == 4 || h == 100;
            x.hour(quiet ? 0 : 2000, 0, 0);
        }
        t.due("alarms with hold 1", x.alarm(0, -1), 197);
        int[] due = {1, 5, 8, 11};
        for (int k = 0; k < due.length; k++) {
            t.due("alarm " + k + " with hold 3", x.alarm(1, k), due[k]);
        }
        t.due("alarms with hold 99", x.alarm(2, -1), 2);
        t.due("alarm 0 with hold 99", x.alarm(2, 0), 1);
        t.due("alarm 1 with hold 99", x.alarm(2, 1), 101);
        t.due("one more with hold 99", x.alarm(2, 2), RoomClimate.NONE);
    }

    private static void aLaterRuleKnowsOnlyLaterHours() {
        RoomClimate x = openRoom();
        x.hour(2000, 0, 0);
        x.hour(2000, 0, 0);
        x.rule(0, 1000, 5);
        t.due("alarms before an hour", x.alarm(0, -1), 0);
        x.hour(2000, 0, 0);
        t.due("alarms of the later rule", x.alarm(0, -1), 1);
        t.due("its hour", x.alarm(0, 0), 2);
    }
}
