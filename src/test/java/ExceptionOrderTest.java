/**
 * EXCEPTIONS: "IndexOutOfBoundsException ..; IllegalStateException, then IllegalArgumentException, as told.
 * Such a call changes nothing." Calls that are wrong in more than one way throw the one that comes first.
 */
public final class ExceptionOrderTest {
    private static final Tester t = new Tester();

    public static void main(String[] args) {
        wallAtFive();
        rowAtSix();
        machineKindFirst();
        hourAtThreeHundred();
        riskKindFirstThenFive();
        ruleAtFour();
        sensorHourFirst();
        checkHourFirstThenValue();
        bothIndexesWrong();
        severalArgumentsWrong();
        t.end();
    }

    /** A past in which every table but the hours is full. */
    private static void filled(RoomClimate x) {
        for (int k = 0; k < 6; k++) {
            x.row(1000 * k, 100 * k);
        }
        for (int k = 0; k < 5; k++) {
            x.wall(10 + k, 20 + k);
            for (int kind = 0; kind < 4; kind++) {
                x.risk(kind, 1000 * k, k);
            }
        }
        for (int r = 0; r < 4; r++) {
            x.rule(r, 15000, 2);
        }
        x.goods(50);
        x.hour(15000, 9000, 1);
        x.hour(15000, 9000, 1);
    }

    private static void hoursPass(RoomClimate x, int last) {
        Twins.lived(x);
        while (x.hour(15000, 9000, 1) < last) {
            continue;
        }
    }

    private static void allHoursButOne(RoomClimate x) {
        hoursPass(x, 298);
    }

    private static void allHours(RoomClimate x) {
        hoursPass(x, 299);
    }

    private static void refusedEach(String what, Class<?> want, Twins.Deed past, int[][] wrong, CallWith call) {
        for (int[] w : wrong) {
            StringBuilder text = new StringBuilder(what);
            for (int v : w) {
                text.append(' ').append(v);
            }
            Twins.refused(t, text.toString(), want, past, x -> call.make(x, w));
        }
    }

    private interface CallWith {
        void make(RoomClimate x, int[] w);
    }

    private static void wallAtFive() {
        int[][] calls = {{50, 50}, {0, 1}, {100, 1000}, {-1, 50}, {101, 50}, {50, 0}, {50, 1001}, {-1, 0}};
        refusedEach("a sixth wall", Tester.STATE, ExceptionOrderTest::filled, calls, (x, w) -> x.wall(w[0], w[1]));
    }

    private static void rowAtSix() {
        int[][] calls = {
            {5001, 50}, {60000, 10000}, {60000, 0}, {5000, 50}, {4999, 50}, {-1, 50}, {60001, 50}, {5001, -1},
            {5001, 10001}, {-1, -1}
        };
        refusedEach("a seventh row", Tester.STATE, ExceptionOrderTest::filled, calls, (x, w) -> x.row(w[0], w[1]));
    }

    private static void machineKindFirst() {
        int[][] calls = {
            {-1, 0, 0, 0}, {4, 0, 0, 0}, {-1, 1, 0, 5}, {4, -60001, 0, 5}, {-1, 0, 60001, 5}, {4, 0, 0, -1},
            {4, 0, 0, 100001}, {Integer.MIN_VALUE, 60001, -60001, -1}, {Integer.MAX_VALUE, 1, 0, 100001}
        };
        refusedEach("machine", Tester.INDEX, Twins::lived, calls, (x, w) -> x.machine(w[0], w[1], w[2], w[3]));
    }

    private static void hourAtThreeHundred() {
        Twins.taken(t, "hour 299", ExceptionOrderTest::allHoursButOne, x -> x.hour(0, 0, 0));
        refusedEach("hour 299, wrong", Tester.ARGUMENT, ExceptionOrderTest::allHoursButOne,
            new int[][] {{60001, 0, 0}, {0, -1, 0}, {0, 0, 100}}, (x, w) -> x.hour(w[0], w[1], w[2]));
        int[][] calls = {
            {0, 0, 0}, {-60000, 0, 0}, {60000, 60000, 99}, {-60001, 0, 0}, {60001, 0, 0}, {0, -1, 0}, {0, 60001, 0},
            {0, 0, -1}, {0, 0, 100}, {60001, -1, 100}
        };
        refusedEach("a 301st hour", Tester.STATE, ExceptionOrderTest::allHours, calls,
            (x, w) -> x.hour(w[0], w[1], w[2]));
    }

    private static void riskKindFirstThenFive() {
        int[][] unknown = {{-1, 5000, 5}, {4, 5000, 5}, {-1, 60001, 5}, {4, -60001, -1}, {4, 5000, 1001}};
        refusedEach("risk, no such kind, new", Tester.INDEX, Twins::nothing, unknown,
            (x, w) -> x.risk(w[0], w[1], w[2]));
        refusedEach("risk, no such kind, all full", Tester.INDEX, ExceptionOrderTest::filled, unknown,
            (x, w) -> x.risk(w[0], w[1], w[2]));
        for (int kind = 0; kind < 4; kind++) {
            int[][] calls = {
                {kind, 4001, 5}, {kind, 60000, 1000}, {kind, 4000, 5}, {kind, 3999, 5}, {kind, -60001, 5},
                {kind, 60001, 5}, {kind, 4001, -1}, {kind, 4001, 1001}, {kind, 60001, -1}
            };
            refusedEach("a sixth row of risk", Tester.STATE, ExceptionOrderTest::filled, calls,
                (x, w) -> x.risk(w[0], w[1], w[2]));
        }
    }

    private static void ruleAtFour() {
        int[][] calls = {
            {0, 0, 1}, {3, 60000, 99}, {-1, 0, 1}, {4, 0, 1}, {0, -60001, 1}, {0, 60001, 1}, {0, 0, 0}, {0, 0, 100},
            {4, 60001, 0}
        };
        refusedEach("a fifth rule", Tester.STATE, ExceptionOrderTest::filled, calls,
            (x, w) -> x.rule(w[0], w[1], w[2]));
    }

    private static void sensorHourFirst() {
        int[][] calls = {{-1, 100001}, {5, 100001}, {5, -100001}, {300, Integer.MAX_VALUE}};
        refusedEach("sensor", Tester.INDEX, Twins::lived, calls, (x, w) -> x.sensor(w[0], w[1]));
    }

    private static void checkHourFirstThenValue() {
        int[][] noHour = {{-1, 0}, {5, 0}, {-1, 100001}, {5, -100001}, {300, Integer.MAX_VALUE}};
        refusedEach("check, no such hour", Tester.INDEX, Twins::lived, noHour, (x, w) -> x.check(w[0], w[1]));
        int[][] noValue = {{1, 0}, {3, 0}, {1, 100001}, {3, -100001}, {1, Integer.MIN_VALUE}};
        refusedEach("check, no value", Tester.STATE, Twins::lived, noValue, (x, w) -> x.check(w[0], w[1]));
        int[][] noNumber = {{2, 100001}, {2, -100001}, {0, 100001}, {4, -100001}};
        refusedEach("check, no such number", Tester.ARGUMENT, Twins::lived, noNumber, (x, w) -> x.check(w[0], w[1]));
    }

    private static void bothIndexesWrong() {
        int[][] books = {{-2, -1}, {5, 2}, {-2, 2}, {5, -1}};
        refusedEach("book", Tester.INDEX, Twins::lived, books, (x, w) -> x.book(w[0], w[1]));
        int[][] alarms = {{-1, -2}, {2, -2}, {2, Integer.MIN_VALUE}};
        refusedEach("alarm", Tester.INDEX, Twins::lived, alarms, (x, w) -> x.alarm(w[0], w[1]));
    }

    private static void severalArgumentsWrong() {
        int[][] two = {{-1, -1}, {Integer.MAX_VALUE, Integer.MAX_VALUE}, {Integer.MIN_VALUE, Integer.MIN_VALUE}};
        refusedEach("room", Tester.ARGUMENT, Twins::lived, two, (x, w) -> x.room(w[0], w[1]));
        refusedEach("wall", Tester.ARGUMENT, Twins::lived, two, (x, w) -> x.wall(w[0], w[1]));
        refusedEach("row", Tester.ARGUMENT, Twins::lived, two, (x, w) -> x.row(w[0], w[1]));
        int[][] three = {
            {-60001, -1, -1}, {60001, 60001, 100001}, {Integer.MIN_VALUE, Integer.MIN_VALUE, Integer.MIN_VALUE},
            {Integer.MAX_VALUE, Integer.MAX_VALUE, Integer.MAX_VALUE}
        };
        refusedEach("hour", Tester.ARGUMENT, Twins::lived, three, (x, w) -> x.hour(w[0], w[1], w[2]));
        refusedEach("rule", Tester.ARGUMENT, Twins::lived, three, (x, w) -> x.rule(w[0], w[1], w[2]));
        refusedEach("plan", Tester.ARGUMENT, Twins::lived, three, (x, w) -> x.plan(w[0], w[1], w[2]));
        refusedEach("machine 0", Tester.ARGUMENT, Twins::lived, three, (x, w) -> x.machine(0, w[0], w[1], w[2]));
        int[][] levelAndPoints = {{-60001, -1}, {60001, 1001}, {12000, 1001}};
        refusedEach("risk 0", Tester.ARGUMENT, Twins::lived, levelAndPoints, (x, w) -> x.risk(0, w[0], w[1]));
    }
}
