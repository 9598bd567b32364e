/** Promises 23 and 24: plan, count. */
public final class PlanAndCountTest {
    private static final Tester t = new Tester();

    public static void main(String[] args) {
        planRefuses();
        planTakesTheLowestOfEqualOnes();
        planWithoutAWarmer();
        planWithTheWarmersRate();
        planOverSeveralHours();
        planTurnsTheWarmerOffAboveItsBand();
        planStartsWithTheWarmerOff();
        planKeepsTheOtherMachinesOn();
        planUsesTheWalls();
        planChangesNothing();
        counts();
        countRefuses();
        t.end();
    }

    private static void planRefuses() {
        RoomClimate x = new RoomClimate();
        int[][] wrong = {
            {0, 0, 0}, {25, 0, 0}, {-1, 0, 0}, {1, -60001, 0}, {1, 60001, 0}, {1, 0, -1}, {1, 0, 60001},
            {Integer.MAX_VALUE, 0, 0}, {1, Integer.MIN_VALUE, 0}, {1, 0, Integer.MAX_VALUE}
        };
        for (int[] w : wrong) {
            String call = "plan(" + w[0] + ", " + w[1] + ", " + w[2] + ")";
            t.refused(call, Tester.ARGUMENT, x, () -> x.plan(w[0], w[1], w[2]));
        }
        t.due("the least plan", x.plan(1, -60000, 0), 18000);
        t.due("the longest plan", x.plan(24, 60000, 60000), 18000);
    }

    /** A closed room of volume 1 at these degrees, with a cooler that is always on. */
    private static RoomClimate cooledRoom(int degrees, int cooling) {
        RoomClimate x = new RoomClimate();
        x.room(1, 1000);
        x.hour(degrees, 0, 0);
        x.room(1, 0);
        x.machine(1, 0, 0, cooling);
        return x;
    }

    private static void planTakesTheLowestOfEqualOnes() {
        RoomClimate x = new RoomClimate();
        x.room(100, 0);
        t.due("plan where levels up to 20000 cost nothing", x.plan(24, -60000, 0), 18000);
        x.room(1, 1000);
        t.due("plan where all levels warm alike", x.plan(3, 17000, 0), 18000);
        x.machine(0, 0, 0, 0);
        t.due("plan with rate 0", x.plan(24, 0, 0), 18000);
    }

    private static void planWithoutAWarmer() {
        // Level 22000 alone warms at 21900. Not warmed, 21900 - 4426 = 17474 costs 52600;
        // warmed by 5000, 22474 costs 5000 + 47400.
        t.due("plan without a warmer", cooledRoom(21900, 4426).plan(1, 0, 0), 22000);
        // Not warmed, 17475 costs 52500; warmed, 22475 costs 5000 + 47500.
        t.due("plan without a warmer, at equal costs", cooledRoom(21900, 4425).plan(1, 0, 0), 18000);
    }

    private static void planWithTheWarmersRate() {
        RoomClimate x = cooledRoom(21900, 4424);
        x.machine(0, 0, 0, 4998);
        // Not warmed, 17476 costs 52400; warmed, 22474 costs 4998 + 47400.
        t.due("plan with rate 4998", x.plan(1, 0, 0), 22000);
        RoomClimate y = cooledRoom(21900, 3920);
        y.machine(0, 0, 0, 2000);
        // Not warmed, 17980 costs 2000; warmed, 19980 costs 2000.
        t.due("plan with rate 2000", y.plan(1, 0, 0), 18000);
        y.machine(0, 0, 0, 1950);
        t.due("plan with rate 1950", y.plan(1, 0, 0), 22000);
    }

    private static void planOverSeveralHours() {
        RoomClimate x = new RoomClimate();
        x.hour(10000, 10000, 0);
        x.machine(0, 0, 0, 10000);
        t.due("degrees", x.degrees(), 19000);
        // Low 18000: 18050, 17195 + 100: 70500 + 10000. Low 18500: 18150, 17285 + 100: 61500 + 20000.
        t.due("plan over two hours", x.plan(2, 9500, 10000), 18000);
        // Low 18000: one more, 16515 + 100: 70500 + 138500 + 20000 = 229000.
        // Low 18500: one more, 16596 + 100: 61500 + 130400 + 30000 = 221900.
        t.due("plan over three hours", x.plan(3, 9500, 10000), 18500);
    }

    private static void planTurnsTheWarmerOffAboveItsBand() {
        RoomClimate x = cooledRoom(21900, 5000);
        x.machine(0, 0, 0, 5600);
        // Levels to 21500: 16900, then warmed 17500: 110000 + 5600 + 50000.
        // Level 22000: 22500 is not above its high, so 23100: 2 * 5600 + 50000 + 110000.
        t.due("plan that ends an hour at the high", x.plan(2, 0, 0), 18000);
        x.machine(0, 0, 0, 5601);
        // Levels to 21500: 16900, 17501: 165501. Level 22000: 22501, then off, 17501: 105601.
        t.due("plan that ends an hour above the high", x.plan(2, 0, 0), 22000);
    }

    private static void planStartsWithTheWarmerOff() {
        RoomClimate x = new RoomClimate();
        x.room(1, 1000);
        x.machine(0, 22000, 23000, 3000);
        x.machine(1, 17000, 17900, 3000);
        x.hour(18200, 0, 0);
        t.due("warmer", x.on(0), true);
        // Level 18000 does not go on at 18200, and ends at 15200; were it on, it would end at 18200.
        t.due("plan with the warmer off at first", x.plan(1, 18200, 0), 18500);
        t.due("the warmer is still on", x.on(0), true);
    }

    private static void planKeepsTheOtherMachinesOn() {
        RoomClimate x = new RoomClimate();
        x.room(1, 1000);
        x.machine(0, 0, 0, 3000);
        x.machine(1, 17000, 21000, 3000);
        t.due("plan with the cooler off", x.plan(1, 18200, 0), 18000);
        x.hour(21001, 0, 0);
        t.due("cooler", x.on(1), true);
        // It is on, and within its band it stays on: 15200 unless warmed.
        t.due("plan with the cooler on", x.plan(1, 18200, 0), 18500);
    }

    private static void planUsesTheWalls() {
        RoomClimate x = new RoomClimate();
        x.room(10, 1000);
        x.hour(20000, 0, 0);
        x.room(10, 0);
        x.machine(0, 0, 0, 5000);
        t.due("plan without walls", x.plan(4, 10000, 0), 18000);
        x.wall(100, 1);
        // The layer is at 10000 behind each hour. Low 18000: 20000, 19000, 18100, 17290 + 500: 21000 + 5000.
        // Low 18500: 20000, 19000, 18100 + 500, 17740 + 500: 10000.
        t.due("plan with a wall", x.plan(4, 10000, 0), 18500);
        t.due("the layer behind a plan", x.layer(0), 20000);
    }

    private static void planChangesNothing() {
        RoomClimate x = new RoomClimate();
        x.wall(50, 50);
        x.wall(20, 500);
        x.goods(500);
        x.row(8000, 500);
        x.row(20000, 5000);
        x.risk(0, 0, 5);
        x.rule(1, 60000, 1);
        x.machine(0, 20500, 21000, 8000);
        x.machine(2, 9000, 15000, 4000);
        x.hour(5000, 3000, 5);
        x.sensor(0, 44);
        x.check(0, 45);
        String before = Tester.seen(x);
        int first = x.plan(24, -60000, 60000);
        x.plan(3, 60000, 0);
        t.due("what is seen behind a plan", Tester.seen(x), before);
        t.due("the same plan again", x.plan(24, -60000, 60000), first);
        t.due("the next hour", x.hour(5000, 3000, 5), 1);
        t.due("the warmer keeps its own band", x.on(0), true);
    }

    private static void counts() {
        RoomClimate x = new RoomClimate();
        x.hour(0, 0, 0);
        x.hour(0, 0, 0);
        x.hour(0, 0, 0);
        x.hour(0, 0, 0);
        x.hour(0, 0, 0);
        x.wall(1, 1);
        x.wall(1, 1);
        x.row(1, 1);
        x.row(2, 1);
        x.row(3, 1);
        x.rule(0, 0, 1);
        for (int h = 0; h < 4; h++) {
            x.sensor(h, 0);
            x.check(h, 0);
        }
        int[] due = {5, 2, 3, 1, 4};
        for (int what = 0; what < 5; what++) {
            t.due("count(" + what + ")", x.count(what), due[what]);
        }
    }

    private static void countRefuses() {
        RoomClimate x = new RoomClimate();
        for (int what : new int[] {-1, 5, Integer.MIN_VALUE, Integer.MAX_VALUE}) {
            t.refused("count(" + what + ")", Tester.INDEX, x, () -> x.count(what));
        }
    }
}
