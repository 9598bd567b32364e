/** Empty and full tables: layers, rows of the goods, rows of risks, rules, hours, values, checks, alarms. */
public final class FullTableTest {
    private static final Tester t = new Tester();

    public static void main(String[] args) {
        fiveLayers();
        aSixthLayer();
        sixRowsOfGoods();
        aSeventhRow();
        fiveRowsOfEachRisk();
        aSixthRowOfARisk();
        fourRules();
        aFifthRule();
        threeHundredHours();
        theLastHourHasASensor();
        threeHundredAlarms();
        valuesInAllHours();
        checksInAllHours();
        emptyTables();
        t.end();
    }

    /** A room of volume 1 whose air is all new each hour: degrees and damp are those outside. */
    private static RoomClimate openRoom() {
        RoomClimate x = new RoomClimate();
        x.room(1, 1000);
        return x;
    }

    private static void fiveLayers() {
        RoomClimate x = new RoomClimate();
        x.room(100, 1000);
        int[] conductances = {100, 50, 40, 50, 100};
        for (int k = 0; k < 5; k++) {
            t.due("layers ahead of wall " + k, x.count(1), k);
            t.due("wall " + k, x.wall(conductances[k], 1), k);
            t.due("layer " + k, x.layer(k), 20000);
        }
        x.hour(21000, 0, 0);
        // The flows are 1000, 500, 200, 100 and 100; then the outside brings the last one from 20100 to 21000.
        int[] due = {20500, 20300, 20100, 20000, 21000};
        for (int k = 0; k < 5; k++) {
            t.due("layer " + k + " behind an hour", x.layer(k), due[k]);
            t.due("dew on layer " + k, x.dew(k), false);
        }
        t.due("heat by walls", x.book(1, 0), -1000);
        t.due("degrees", x.degrees(), 20990);
        t.due("layers", x.count(1), 5);
    }

    private static void aSixthLayer() {
        Twins.Deed five = x -> {
            for (int k = 0; k < 5; k++) {
                x.wall(20 * k, 1 + k);
            }
            x.hour(5000, 5000, 5);
        };
        Twins.refused(t, "a sixth wall", Tester.STATE, five, x -> x.wall(50, 50));
        Twins.refused(t, "a sixth wall, tried twice", Tester.STATE, five, x -> {
            t.due("the first time", Twins.thrownBy(x, y -> y.wall(50, 50)), "IllegalStateException");
            x.wall(50, 50);
        });
    }

    /** What four kilograms take in their first hour is the milligrams of the row that counts. */
    private static void sixRowsOfGoods() {
        int[][] dues = {
            {999, 60}, {1000, 60}, {1001, 50}, {2000, 50}, {2001, 40}, {3000, 40}, {3001, 30}, {4000, 30}, {4001, 20},
            {5000, 20}, {5001, 10}, {6000, 10}, {6001, 10}, {60000, 10}
        };
        for (int[] due : dues) {
            RoomClimate x = new RoomClimate();
            x.room(1000, 1000);
            x.goods(4);
            for (int k = 0; k < 6; k++) {
                t.due("rows ahead of row " + k, x.count(2), k);
                t.due("row " + k, x.row(1000 * (k + 1), 60 - 10 * k), k);
            }
            x.hour(20000, due[0], 0);
            t.due("held of six rows at damp " + due[0], x.held(), due[1]);
        }
        for (int rows = 0; rows < 6; rows++) {
            RoomClimate x = new RoomClimate();
            x.room(1000, 1000);
            x.goods(4);
            for (int k = 0; k < rows; k++) {
                x.row(1000 * (k + 1), 10 + k);
            }
            x.hour(20000, 60000, 0);
            t.due("held behind the last of " + rows + " rows", x.held(), rows == 0 ? 0 : 9 + rows);
        }
    }

    private static void aSeventhRow() {
        Twins.Deed six = x -> {
            x.goods(40);
            for (int k = 0; k < 6; k++) {
                x.row(3000 * k, 100 * k);
            }
            x.hour(5000, 5000, 5);
        };
        for (int damp : new int[] {15001, 60000, 15000, 0}) {
            Twins.refused(t, "a seventh row of " + damp, Tester.STATE, six, x -> x.row(damp, 50));
        }
    }

    private static void fiveRowsOfEachRisk() {
        for (int kind = 0; kind < 4; kind++) {
            RoomClimate x = openRoom();
            for (int k = 0; k < 5; k++) {
                t.due("risk " + kind + ", row " + k, x.risk(kind, 1000 * (k + 1), 1 << k), k);
            }
            int[][] readingsAndPoints = {
                {999, 0}, {1000, 1}, {1999, 1}, {2000, 2}, {2999, 2}, {3000, 4}, {3999, 4}, {4000, 8}, {4999, 8},
                {5000, 16}, {60000, 16}
            };
            int sum = 0;
            for (int[] due : readingsAndPoints) {
                x.hour(kind < 2 ? 0 : due[0], kind < 2 ? due[0] : 0, 0);
                sum += due[1];
                t.due("points of " + kind + " behind " + due[0], x.points(kind), sum);
            }
            for (int other = 0; other < 4; other++) {
                t.due("points of " + other + " beside " + kind, x.points(other), other == kind ? sum : 0);
            }
        }
    }

    private static void aSixthRowOfARisk() {
        for (int kind = 0; kind < 4; kind++) {
            int full = kind;
            Twins.Deed five = x -> {
                for (int k = 0; k < 5; k++) {
                    x.risk(full, 1000 * k, k);
                }
                x.hour(5000, 5000, 5);
            };
            Twins.refused(t, "a sixth row of risk " + kind, Tester.STATE, five, x -> x.risk(full, 4001, 5));
            for (int other = 0; other < 4; other++) {
                if (other != full) {
                    RoomClimate x = Twins.grown(five);
                    t.due("the first row of risk " + other + " beside a full one", x.risk(other, 0, 5), 0);
                }
            }
        }
    }

    private static void fourRules() {
        RoomClimate x = openRoom();
        for (int r = 0; r < 4; r++) {
            t.due("rules ahead of rule " + r, x.count(3), r);
            t.due("rule " + r, x.rule(r, 1000, 1 + r), r);
        }
        int[][] hours = {{1001, 999}, {999, 1001}, {1001, 999}, {999, 1001}, {1001, 999}};
        for (int[] h : hours) {
            x.hour(h[0], h[1], 0);
        }
        // Hours 0, 2, 4 break rules 0 and 3, hours 1 and 3 rules 1 and 2; the holds are 1, 2, 3, 4.
        String[] due = {"3 0 2 4 -1", "2 1 3 -1 -1", "1 1 -1 -1 -1", "2 0 4 -1 -1"};
        for (int r = 0; r < 4; r++) {
            String got = x.alarm(r, -1) + " " + x.alarm(r, 0) + " " + x.alarm(r, 1) + " " + x.alarm(r, 2) + " "
                + x.alarm(r, 3);
            t.due("alarms of rule " + r, got, due[r]);
        }
    }

    private static void aFifthRule() {
        Twins.Deed four = x -> {
            for (int r = 0; r < 4; r++) {
                x.rule(r, 15000, 2);
            }
            x.hour(5000, 5000, 5);
        };
        Twins.refused(t, "a fifth rule", Tester.STATE, four, x -> x.rule(0, 0, 1));
        Twins.refused(t, "alarm of a fifth rule", Tester.INDEX, four, x -> x.alarm(4, -1));
    }

    private static void threeHundredHours() {
        RoomClimate x = new RoomClimate();
        for (int h = 0; h < 300; h++) {
            t.due("hour " + h, x.hour(20000, 10000, 1), h);
        }
        t.due("hours", x.count(0), 300);
        t.due("heat by visitors", x.book(3, 0), 30000);
        String before = Twins.seen(x);
        t.due("a 301st hour", Twins.thrownBy(x, y -> y.hour(20000, 10000, 1)), "IllegalStateException");
        t.due("a 302nd hour", Twins.thrownBy(x, y -> y.hour(-60000, 0, 99)), "IllegalStateException");
        t.due("what is seen behind refused hours", Twins.seen(x), before);
        x.room(50, 50);
        x.goods(5);
        t.due("a wall behind all hours", x.wall(5, 5), 0);
        t.due("a row behind all hours", x.row(5, 5), 0);
        t.due("a rule behind all hours", x.rule(0, 0, 1), 0);
        t.due("its alarms", x.alarm(0, -1), 0);
        t.due("a risk's row behind all hours", x.risk(0, 0, 1), 0);
        t.due("hours", x.count(0), 300);
    }

    private static void theLastHourHasASensor() {
        RoomClimate x = new RoomClimate();
        for (int h = 0; h < 300; h++) {
            x.hour(20000, 10000, 0);
        }
        t.due("corrected(299)", x.corrected(299), -200000);
        t.due("silent(299)", x.silent(299), 299);
        t.due("silent(0)", x.silent(0), 0);
        x.sensor(299, 40);
        x.check(299, 45);
        t.due("corrected(299) with a check", x.corrected(299), 45);
        x.sensor(0, 10);
        t.due("corrected(0), ahead of the check in the last hour", x.corrected(0), 15);
        x.check(0, 10);
        x.sensor(298, 0);
        // 0 + 5 * 298 by 299
        t.due("corrected(298), between the first and the last hour", x.corrected(298), 4);
        t.due("silent(299) with a value", x.silent(299), RoomClimate.NONE);
        t.due("silent(0) between the values", x.silent(0), 1);
        for (int hour : new int[] {-1, 300}) {
            t.due("sensor of " + hour, Twins.thrownBy(x, y -> y.sensor(hour, 5)), "IndexOutOfBoundsException");
            t.due("check of " + hour, Twins.thrownBy(x, y -> y.check(hour, 5)), "IndexOutOfBoundsException");
            t.due("corrected of " + hour, Twins.thrownBy(x, y -> y.corrected(hour)), "IndexOutOfBoundsException");
            t.due("silent of " + hour, Twins.thrownBy(x, y -> y.silent(hour)), "IndexOutOfBoundsException");
        }
    }

    private static void threeHundredAlarms() {
        RoomClimate x = openRoom();
        for (int r = 0; r < 4; r++) {
            x.rule(0, -60000, 1);
        }
        for (int h = 0; h < 300; h++) {
            x.hour(0, 0, 0);
        }
        for (int r = 0; r < 4; r++) {
            t.due("alarms in all hours", x.alarm(r, -1), 300);
            t.due("the first alarm", x.alarm(r, 0), 0);
            t.due("the last alarm", x.alarm(r, 299), 299);
            t.due("one more", x.alarm(r, 300), RoomClimate.NONE);
            t.due("far more", x.alarm(r, Integer.MAX_VALUE), RoomClimate.NONE);
        }
    }

    /** As many hours with a value each as the calls of one object allow. */
    private static void valuesInAllHours() {
        RoomClimate x = new RoomClimate();
        for (int h = 0; h < 250; h++) {
            x.hour(20000, 10000, 0);
        }
        for (int h = 249; h > 0; h--) {
            x.sensor(h, h);
        }
        t.due("silent where only the first hour has no value", x.silent(0), 0);
        t.due("silent behind it", x.silent(1), RoomClimate.NONE);
        x.sensor(0, 0);
        t.due("silent where all have one", x.silent(0), RoomClimate.NONE);
        t.due("silent in the last hour", x.silent(249), RoomClimate.NONE);
        t.due("the first value", x.corrected(0), 0);
        t.due("the last value", x.corrected(249), 249);
    }

    private static void checksInAllHours() {
        RoomClimate x = new RoomClimate();
        for (int h = 0; h < 100; h++) {
            x.hour(20000, 10000, 0);
            x.sensor(h, 1000 * h);
            x.check(h, 1000 * h + h * h % 17);
        }
        t.due("checks", x.count(4), 100);
        for (int h = 0; h < 100; h++) {
            t.due("corrected(" + h + ")", x.corrected(h), 1000 * h + h * h % 17);
        }
        x.check(0, 0);
        x.check(99, 0);
        t.due("checks behind others of the same hours", x.count(4), 100);
    }

    private static void emptyTables() {
        RoomClimate x = new RoomClimate();
        for (int what = 0; what < 5; what++) {
            t.due("count(" + what + ")", x.count(what), 0);
        }
        t.due("layer(0)", Twins.thrownBy(x, y -> y.layer(0)), "IndexOutOfBoundsException");
        t.due("dew(0)", Twins.thrownBy(x, y -> y.dew(0)), "IndexOutOfBoundsException");
        t.due("alarm(0, -1)", Twins.thrownBy(x, y -> y.alarm(0, -1)), "IndexOutOfBoundsException");
        t.due("sensor(0, 0)", Twins.thrownBy(x, y -> y.sensor(0, 0)), "IndexOutOfBoundsException");
        t.due("check(0, 0)", Twins.thrownBy(x, y -> y.check(0, 0)), "IndexOutOfBoundsException");
        t.due("corrected(0)", Twins.thrownBy(x, y -> y.corrected(0)), "IndexOutOfBoundsException");
        t.due("silent(0)", Twins.thrownBy(x, y -> y.silent(0)), "IndexOutOfBoundsException");
        t.due("plan with nothing told", x.plan(1, 20000, 10000), 18000);
        t.due("the first hour", x.hour(20000, 10000, 0), 0);
        t.due("layer(0) behind an hour", Twins.thrownBy(x, y -> y.layer(0)), "IndexOutOfBoundsException");
        t.due("alarm(0, -1) behind an hour", Twins.thrownBy(x, y -> y.alarm(0, -1)), "IndexOutOfBoundsException");
        t.due("silent(0) behind an hour", x.silent(0), 0);
    }
}
