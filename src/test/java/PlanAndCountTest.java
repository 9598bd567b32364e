/** Promises 23 and 24: plan, count. */
public final class PlanAndCountTest {
    private static final Tester t = new Tester();

    public static void main(String[] args) {
        planAtTheEdgesOfItsArguments();
        planTakesTheLowestOfEqualOnes();
        planTriesEachLevelFromTheFirstToTheLast();
        planTriesNoLevelBelowOrAbove();
        planCountsHowFarBelow();
        planCountsHowFarAbove();
        planLooksAtTheLastHour();
        planWithoutAWarmer();
        planWithTheWarmersRate();
        planOverSeveralHours();
        planTurnsTheWarmerOffAboveItsBand();
        planStartsWithTheWarmerOff();
        planKeepsTheOtherMachinesOn();
        planUsesTheWalls();
        planChangesNothing();
        planOfAToldRateOfNothing();
        planWithoutAWarmerIsOneOfFiveThousand();
        planCopiesTheMachinesAsTheyAre();
        planCopiesTheWallsAsTheyAre();
        planBehindAllHours();
        planHasNoVisitors();
        counts();
        countsFromNoneToFull();
        t.end();
    }

    private static void planAtTheEdgesOfItsArguments() {
        for (int hours : new int[] {1, 24}) {
            for (int degrees : new int[] {-60000, 60000}) {
                for (int damp : new int[] {0, 60000}) {
                    RoomClimate x = new RoomClimate();
                    int due = new PlainRoom().plan(hours, degrees, damp);
                    t.due("plan(" + hours + ", " + degrees + ", " + damp + ")", x.plan(hours, degrees, damp), due);
                }
            }
        }
    }

    /** A closed room of volume 1 at these degrees, with a cooler that is always on. */
    private static RoomClimate cooledRoom(int degrees, int cooling) {
        RoomClimate x = new RoomClimate();
        x.room(1, 1000);
        x.hour(degrees, 0, 0);
        x.room(1, 0);
        x.machine(1, 0, 0, cooling);
        return x;
    }

    private static void planTakesTheLowestOfEqualOnes() {
        RoomClimate x = new RoomClimate();
        x.room(100, 0);
        t.due("plan where levels up to 20000 cost nothing", x.plan(24, -60000, 0), 18000);
        x.room(1, 1000);
        t.due("plan where all levels warm alike", x.plan(3, 17000, 0), 18000);
        x.machine(0, 0, 0, 0);
        t.due("plan with rate 0", x.plan(24, 0, 0), 18000);
    }

    /**
     * A cooler takes 5000, a warmer gives them back. So a level that goes on costs 5000, and one that does not
     * far more: the lowest level above the room's degrees is the best.
     */
    private static void planTriesEachLevelFromTheFirstToTheLast() {
        for (int level = 18000; level <= 22000; level += 500) {
            t.due("plan at one below " + level, cooledRoom(level - 1, 5000).plan(1, 0, 0), level);
            int next = level == 22000 ? 18000 : level + 500;
            t.due("plan at just " + level, cooledRoom(level, 5000).plan(1, 0, 0), next);
        }
    }

    private static void planTriesNoLevelBelowOrAbove() {
        // A level of 22500 would go on at 22100, and end there; none does, and all end at 17100.
        t.due("plan at 22100", cooledRoom(22100, 5000).plan(1, 0, 0), 18000);
        // At 17900 all levels go on, and end at 22900; one of 17500 would stay off.
        RoomClimate x = cooledRoom(17900, 0);
        t.due("plan at 17900", x.plan(1, 0, 0), 18000);
    }

    /** Only level 22000 warms at 21900. Those that do not end below 18000 by so many thousandths. */
    private static void planCountsHowFarBelow() {
        int[][] dues = {
            {0, 1, 18000}, {1, 99, 22000}, {1, 100, 18000}, {1, 101, 18000}, {2, 199, 22000}, {2, 200, 18000}
        };
        for (int[] due : dues) {
            RoomClimate x = cooledRoom(21900, 3900 + due[0]);
            x.machine(0, 0, 0, due[1]);
            t.due("plan " + due[0] + " below, with rate " + due[1], x.plan(1, 0, 0), due[2]);
        }
    }

    /** Only level 22000 warms at 21900: it ends by its rate above where the others end, below 18000. */
    private static void planCountsHowFarAbove() {
        int[][] dues = {
            // 41 below cost 4100. A rate of 4041 ends at 22000 and costs 4041; one of 4042 costs 4042 + 100.
            {41, 4041, 22000}, {41, 4042, 18000},
            // 42 below cost 4200. A rate of 4043 ends at 22001 and costs 4043 + 100; one of 4044 costs 4044 + 200.
            {42, 4043, 22000}, {42, 4044, 18000}
        };
        for (int[] due : dues) {
            RoomClimate x = cooledRoom(21900, 3900 + due[0]);
            x.machine(0, 0, 0, due[1]);
            t.due("plan " + due[0] + " below, with rate " + due[1], x.plan(1, 0, 0), due[2]);
        }
    }

    /** 100 are taken each hour. In hour 24 levels of 18000 end at 17999, which costs 100; 18500 warms by 5 * 10. */
    private static void planLooksAtTheLastHour() {
        RoomClimate x = cooledRoom(20399, 100);
        x.machine(0, 0, 0, 10);
        t.due("plan over 23 hours", x.plan(23, 0, 0), 18000);
        t.due("plan over 24 hours", x.plan(24, 0, 0), 18500);
        RoomClimate y = cooledRoom(20400, 100);
        y.machine(0, 0, 0, 10);
        t.due("plan over 24 hours that end at 18000", y.plan(24, 0, 0), 18000);
    }

    private static void planOfAToldRateOfNothing() {
        RoomClimate x = cooledRoom(21900, 4426);
        t.due("plan without a warmer", x.plan(1, 0, 0), 22000);
        x.machine(0, -60000, 60000, 0);
        t.due("plan with a told rate of 0", x.plan(1, 0, 0), 18000);
        x.machine(0, -60000, 60000, 5000);
        t.due("plan with a told rate of 5000", x.plan(1, 0, 0), 22000);
    }

    /**
     * At 20500 levels up to 20500 end hour 0 at 17500, then warm to 19500; the high of 19000 lets them warm on.
     * The others end hour 0 at 22500, go off, and warm again: equal costs of 50000 + 2 * 5000.
     * By 4999 those others cost less; by 5001 the high of 19000 is passed, and 19500 is the lowest that warms on.
     */
    private static void planWithoutAWarmerIsOneOfFiveThousand() {
        t.due("plan without a warmer", cooledRoom(20500, 3000).plan(3, 0, 0), 19000);
        int[][] dues = {{4999, 21000}, {5000, 19000}, {5001, 19500}};
        for (int[] due : dues) {
            RoomClimate x = cooledRoom(20500, 3000);
            x.machine(0, 0, 0, due[0]);
            t.due("plan with rate " + due[0], x.plan(3, 0, 0), due[1]);
        }
    }

    private static void planCopiesTheMachinesAsTheyAre() {
        RoomClimate on = new RoomClimate();
        on.room(1, 1000);
        on.machine(0, 0, 0, 3000);
        on.machine(1, 17000, 21000, 3000);
        on.hour(21001, 0, 0);
        t.due("the first plan with the cooler on", on.plan(1, 18200, 0), 18500);
        t.due("the next plan is the same", on.plan(1, 18200, 0), 18500);
        RoomClimate band = new RoomClimate();
        band.room(1, 1000);
        band.hour(18400, 0, 0);
        band.room(1, 0);
        band.machine(0, 0, 0, 200);
        band.machine(1, 18300, 18350, 200);
        // The cooler goes on at 18400, and off at 18200: low enough for all levels, and without cost.
        t.due("plan with a cooler that goes off", band.plan(4, 0, 0), 18000);
        band.machine(1, 0, 18350, 200);
        t.due("plan with a cooler that stays on", band.plan(4, 0, 0), 18500);
    }

    private static void planCopiesTheWallsAsTheyAre() {
        int[][] capacitiesAndDues = {{1, 18500}, {1000, 18000}};
        for (int[] due : capacitiesAndDues) {
            RoomClimate x = new RoomClimate();
            x.room(10, 1000);
            x.hour(20000, 0, 0);
            x.room(10, 0);
            x.machine(0, 0, 0, 5000);
            x.wall(100, due[0]);
            // As in planUsesTheWalls; a layer of 1000 is still at 19960 behind four hours.
            t.due("plan with a capacity of " + due[0], x.plan(4, 10000, 0), due[1]);
        }
    }

    private static void planBehindAllHours() {
        RoomClimate x = cooledRoom(21900, 0);
        while (x.hour(0, 0, 0) < 299) {
            continue;
        }
        x.machine(1, 0, 0, 4426);
        t.due("plan behind 300 hours", x.plan(1, 0, 0), 22000);
        t.due("plan of 24 hours behind 300", x.plan(24, 0, 0) >= 18000, true);
        t.due("hours", x.count(0), 300);
    }

    private static void planHasNoVisitors() {
        RoomClimate x = cooledRoom(21900, 0);
        x.hour(0, 0, 99);
        x.room(1, 1000);
        x.hour(21900, 0, 0);
        x.room(1, 0);
        x.machine(1, 0, 0, 4426);
        // As in planWithoutAWarmer; a visitor's 100 would make it 42600 not warmed, and 5000 + 57400 warmed.
        t.due("plan behind an hour with visitors", x.plan(1, 0, 0), 22000);
    }

    private static void planWithoutAWarmer() {
        // Level 22000 alone warms at 21900. Not warmed, 21900 - 4426 = 17474 costs 52600;
        // warmed by 5000, 22474 costs 5000 + 47400.
        t.due("plan without a warmer", cooledRoom(21900, 4426).plan(1, 0, 0), 22000);
        // Not warmed, 17475 costs 52500; warmed, 22475 costs 5000 + 47500.
        t.due("plan without a warmer, at equal costs", cooledRoom(21900, 4425).plan(1, 0, 0), 18000);
    }

    private static void planWithTheWarmersRate() {
        RoomClimate x = cooledRoom(21900, 4424);
        x.machine(0, 0, 0, 4998);
        // Not warmed, 17476 costs 52400; warmed, 22474 costs 4998 + 47400.
        t.due("plan with rate 4998", x.plan(1, 0, 0), 22000);
        RoomClimate y = cooledRoom(21900, 3920);
        y.machine(0, 0, 0, 2000);
        // Not warmed, 17980 costs 2000; warmed, 19980 costs 2000.
        t.due("plan with rate 2000", y.plan(1, 0, 0), 18000);
        y.machine(0, 0, 0, 1950);
        t.due("plan with rate 1950", y.plan(1, 0, 0), 22000);
    }

    private static void planOverSeveralHours() {
        RoomClimate x = new RoomClimate();
        x.hour(10000, 10000, 0);
        x.machine(0, 0, 0, 10000);
        t.due("degrees", x.degrees(), 19000);
        // Low 18000: 18050, 17195 + 100: 70500 + 10000. Low 18500: 18150, 17285 + 100: 61500 + 20000.
        t.due("plan over two hours", x.plan(2, 9500, 10000), 18000);
        // Low 18000: one more, 16515 + 100: 70500 + 138500 + 20000 = 229000.
        // Low 18500: one more, 16596 + 100: 61500 + 130400 + 30000 = 221900.
        t.due("plan over three hours", x.plan(3, 9500, 10000), 18500);
    }

    private static void planTurnsTheWarmerOffAboveItsBand() {
        RoomClimate x = cooledRoom(21900, 5000);
        x.machine(0, 0, 0, 5600);
        // Levels to 21500: 16900, then warmed 17500: 110000 + 5600 + 50000.
        // Level 22000: 22500 is not above its high, so 23100: 2 * 5600 + 50000 + 110000.
        t.due("plan that ends an hour at the high", x.plan(2, 0, 0), 18000);
        x.machine(0, 0, 0, 5601);
        // Levels to 21500: 16900, 17501: 165501. Level 22000: 22501, then off, 17501: 105601.
        t.due("plan that ends an hour above the high", x.plan(2, 0, 0), 22000);
    }

    private static void planStartsWithTheWarmerOff() {
        RoomClimate x = new RoomClimate();
        x.room(1, 1000);
        x.machine(0, 22000, 23000, 3000);
        x.machine(1, 17000, 17900, 3000);
        x.hour(18200, 0, 0);
        t.due("warmer", x.on(0), true);
        // Level 18000 does not go on at 18200, and ends at 15200; were it on, it would end at 18200.
        t.due("plan with the warmer off at first", x.plan(1, 18200, 0), 18500);
        t.due("the warmer is still on", x.on(0), true);
    }

    private static void planKeepsTheOtherMachinesOn() {
        RoomClimate x = new RoomClimate();
        x.room(1, 1000);
        x.machine(0, 0, 0, 3000);
        x.machine(1, 17000, 21000, 3000);
        t.due("plan with the cooler off", x.plan(1, 18200, 0), 18000);
        x.hour(21001, 0, 0);
        t.due("cooler", x.on(1), true);
        // It is on, and within its band it stays on: 15200 unless warmed.
        t.due("plan with the cooler on", x.plan(1, 18200, 0), 18500);
    }

    private static void planUsesTheWalls() {
        RoomClimate x = new RoomClimate();
        x.room(10, 1000);
        x.hour(20000, 0, 0);
        x.room(10, 0);
        x.machine(0, 0, 0, 5000);
        t.due("plan without walls", x.plan(4, 10000, 0), 18000);
        x.wall(100, 1);
        // The layer is at 10000 behind each hour. Low 18000: 20000, 19000, 18100, 17290 + 500: 21000 + 5000.
        // Low 18500: 20000, 19000, 18100 + 500, 17740 + 500: 10000.
        t.due("plan with a wall", x.plan(4, 10000, 0), 18500);
        t.due("the layer behind a plan", x.layer(0), 20000);
    }

    private static void planChangesNothing() {
        RoomClimate x = new RoomClimate();
        x.wall(50, 50);
        x.wall(20, 500);
        x.goods(500);
        x.row(8000, 500);
        x.row(20000, 5000);
        x.risk(0, 0, 5);
        x.rule(1, 60000, 1);
        x.machine(0, 20500, 21000, 8000);
        x.machine(2, 9000, 15000, 4000);
        x.hour(5000, 3000, 5);
        x.sensor(0, 44);
        x.check(0, 45);
        String before = Twins.seen(x);
        int first = x.plan(24, -60000, 60000);
        x.plan(3, 60000, 0);
        t.due("what is seen behind a plan", Twins.seen(x), before);
        t.due("the same plan again", x.plan(24, -60000, 60000), first);
        t.due("the next hour", x.hour(5000, 3000, 5), 1);
        t.due("the warmer keeps its own band", x.on(0), true);
    }

    private static void counts() {
        RoomClimate x = new RoomClimate();
        x.hour(0, 0, 0);
        x.hour(0, 0, 0);
        x.hour(0, 0, 0);
        x.hour(0, 0, 0);
        x.hour(0, 0, 0);
        x.wall(1, 1);
        x.wall(1, 1);
        x.row(1, 1);
        x.row(2, 1);
        x.row(3, 1);
        x.rule(0, 0, 1);
        for (int h = 0; h < 4; h++) {
            x.sensor(h, 0);
            x.check(h, 0);
        }
        int[] due = {5, 2, 3, 1, 4};
        for (int what = 0; what < 5; what++) {
            t.due("count(" + what + ")", x.count(what), due[what]);
        }
    }

    private static void countsFromNoneToFull() {
        RoomClimate x = new RoomClimate();
        for (int n = 0; n <= 6; n++) {
            t.due("hours", x.count(0), n);
            t.due("layers", x.count(1), Math.min(n, 5));
            t.due("rows of the goods", x.count(2), n);
            t.due("rules", x.count(3), Math.min(n, 4));
            t.due("checks", x.count(4), n);
            int k = n;
            t.due("wall " + k, Twins.answerOf(x, y -> y.wall(5, 5)), k < 5 ? k : "throws IllegalStateException");
            t.due("row " + k, Twins.answerOf(x, y -> y.row(k, 5)), k < 6 ? k : "throws IllegalStateException");
            t.due("rule " + k, Twins.answerOf(x, y -> y.rule(0, 0, 1)), k < 4 ? k : "throws IllegalStateException");
            t.due("hour " + k, x.hour(0, 0, 0), k);
            x.sensor(k, 5);
            x.check(k, 6);
            x.check(k, 7);
        }
    }
}
