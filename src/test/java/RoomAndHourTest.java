/** Promises 1, 2, 7, 8, 9 and 13: a new object, room, hour, degrees, damp, book. */
public final class RoomAndHourTest {
    private static final Tester t = new Tester();

    public static void main(String[] args) {
        newObject();
        firstHourOfANewObject();
        roomKeepsHeatAndWater();
        roomAnewKeepsTheRest();
        airByShareAndVolume();
        airAtTheEdgesOfTheShare();
        airIsRoundedDown();
        degreesAndDampAreRoundedDown();
        airLeavesWhatIsLessThanOneEach();
        visitorsBringHeatAndWater();
        stepsComeInTheirOrder();
        booksAddUp();
        heatHasNoBound();
        objectsAreApart();
        t.end();
    }

    private static void newObject() {
        RoomClimate x = new RoomClimate();
        t.due("NONE", RoomClimate.NONE, -1);
        t.due("degrees of a new room", x.degrees(), 20000);
        t.due("damp of a new room", x.damp(), 10000);
        t.due("held of a new room", x.held(), 0);
        t.due("heat of a new room", x.book(-1, 0), 2000000);
        t.due("water of a new room", x.book(-1, 1), 1000000);
        for (int kind = 0; kind < 5; kind++) {
            t.due("new heat book " + kind, x.book(kind, 0), 0);
            t.due("new water book " + kind, x.book(kind, 1), 0);
            t.due("new count " + kind, x.count(kind), 0);
        }
        for (int kind = 0; kind < 4; kind++) {
            t.due("new machine " + kind, x.on(kind), false);
            t.due("new points " + kind, x.points(kind), 0);
        }
        t.due("goods of a new room", x.goods(0), 0);
        t.due("its first wall", x.wall(5, 5), 0);
        t.due("its first row", x.row(5, 5), 0);
        t.due("its first rule", x.rule(0, 5, 5), 0);
        t.due("its first row of a risk", x.risk(3, 5, 5), 0);
        t.due("its first hour", x.hour(5, 5, 5), 0);
    }

    private static void firstHourOfANewObject() {
        RoomClimate x = new RoomClimate();
        x.hour(30000, 20000, 0);
        t.due("degrees by the first share and volume", x.degrees(), 21000);
        t.due("damp by the first share and volume", x.damp(), 11000);
        t.due("heat by air", x.book(0, 0), 100000);
        t.due("water by air", x.book(0, 1), 100000);
        for (int kind = 1; kind < 5; kind++) {
            t.due("heat by nothing else, " + kind, x.book(kind, 0), 0);
            t.due("water by nothing else, " + kind, x.book(kind, 1), 0);
        }
        t.due("held without goods", x.held(), 0);
        for (int kind = 0; kind < 4; kind++) {
            t.due("a machine that was not told, " + kind, x.on(kind), false);
            t.due("points without rows, " + kind, x.points(kind), 0);
        }
    }

    private static void roomKeepsHeatAndWater() {
        RoomClimate x = new RoomClimate();
        x.room(1000, 0);
        t.due("degrees at 1000", x.degrees(), 2000);
        t.due("damp at 1000", x.damp(), 1000);
        t.due("heat at 1000", x.book(-1, 0), 2000000);
        t.due("water at 1000", x.book(-1, 1), 1000000);
        x.room(1, 1000);
        t.due("degrees at 1", x.degrees(), 2000000);
        t.due("damp at 1", x.damp(), 1000000);
        t.due("heat at 1", x.book(-1, 0), 2000000);
        t.due("water at 1", x.book(-1, 1), 1000000);
        x.room(300, 0);
        t.due("degrees at 300", x.degrees(), 6666);
        t.due("damp at 300", x.damp(), 3333);
        for (int kind = 0; kind < 5; kind++) {
            t.due("no heat is booked by room, " + kind, x.book(kind, 0), 0);
            t.due("no water is booked by room, " + kind, x.book(kind, 1), 0);
        }
    }

    private static void roomAnewKeepsTheRest() {
        RoomClimate x = Twins.grown(Twins::lived);
        String before = Twins.seen(x);
        x.room(1, 1000);
        x.room(1000, 0);
        x.room(90, 150);
        t.due("all that is seen when the first room is told again", Twins.seen(x), before);
    }

    private static void airByShareAndVolume() {
        RoomClimate x = new RoomClimate();
        x.room(100, 0);
        t.due("hour", x.hour(-60000, 60000, 0), 0);
        t.due("degrees without air", x.degrees(), 20000);
        t.due("damp without air", x.damp(), 10000);
        x.room(100, 1000);
        t.due("hour", x.hour(-60000, 60000, 0), 1);
        t.due("degrees with all air new", x.degrees(), -60000);
        t.due("damp with all air new", x.damp(), 60000);
        t.due("heat by air", x.book(0, 0), -8000000);
        t.due("water by air", x.book(0, 1), 5000000);
        t.due("hour", x.hour(60000, 0, 0), 2);
        t.due("degrees with all air new", x.degrees(), 60000);
        t.due("damp with all air new", x.damp(), 0);
        t.due("heat by air", x.book(0, 0), 4000000);
        t.due("water by air", x.book(0, 1), -1000000);
        t.due("no heat by walls", x.book(1, 0), 0);
        t.due("no water by goods", x.book(2, 1), 0);
    }

    private static void airAtTheEdgesOfTheShare() {
        int[][] dues = {{0, 0, 0}, {1, -40000, -10000}, {999, -39960000, -9990000}, {1000, -40000000, -10000000}};
        for (int[] due : dues) {
            RoomClimate x = new RoomClimate();
            x.room(1000, 1000);
            x.hour(20000, 10000, 0);
            x.room(1000, due[0]);
            long heat = x.book(0, 0);
            long water = x.book(0, 1);
            x.hour(-20000, 0, 0);
            t.due("heat by a share of " + due[0], x.book(0, 0) - heat, due[1]);
            t.due("water by a share of " + due[0], x.book(0, 1) - water, due[2]);
        }
    }

    /** share * (D - degrees) * volume by 1000 with share 1 and volume 100: a tenth of the difference. */
    private static void airIsRoundedDown() {
        int[][] dues = {
            {0, 0}, {1, 0}, {9, 0}, {10, 1}, {19, 1}, {20, 2}, {-1, -1}, {-9, -1}, {-10, -1}, {-11, -2}, {-20, -2}
        };
        for (int[] due : dues) {
            RoomClimate x = new RoomClimate();
            x.room(100, 1);
            x.hour(20000 + due[0], 10000 - due[0], 0);
            t.due("heat by air at a difference of " + due[0], x.book(0, 0), due[1]);
            RoomClimate y = new RoomClimate();
            y.room(100, 1);
            y.hour(20000 - due[0], 10000 + due[0], 0);
            t.due("water by air at a difference of " + due[0], y.book(0, 1), due[1]);
        }
    }

    /** In a room of volume 1 with all air new, heat and water are the degrees and damp outside. */
    private static void degreesAndDampAreRoundedDown() {
        int[][] degrees = {
            {-60000, -60}, {-1001, -2}, {-1000, -1}, {-999, -1}, {-1, -1}, {0, 0}, {1, 0}, {999, 0}, {1000, 1},
            {1999, 1}, {60000, 60}
        };
        for (int[] due : degrees) {
            RoomClimate x = new RoomClimate();
            x.room(1, 1000);
            x.hour(due[0], 0, 0);
            t.due("heat", x.book(-1, 0), due[0]);
            x.room(1000, 0);
            t.due("degrees by a heat of " + due[0], x.degrees(), due[1]);
        }
        int[][] damps = {{0, 0}, {1, 0}, {999, 0}, {1000, 1}, {1999, 1}, {60000, 60}};
        for (int[] due : damps) {
            RoomClimate x = new RoomClimate();
            x.room(1, 1000);
            x.hour(0, due[0], 0);
            t.due("water", x.book(-1, 1), due[0]);
            x.room(1000, 0);
            t.due("damp by a water of " + due[0], x.damp(), due[1]);
        }
    }

    private static void airLeavesWhatIsLessThanOneEach() {
        RoomClimate x = new RoomClimate();
        x.room(3, 1);
        t.due("degrees at 3", x.degrees(), 666666);
        t.due("damp at 3", x.damp(), 333333);
        x.hour(0, 0, 0);
        // 1 * (0 - 666666) * 3 by 1000 = -1999.998, rounded down; the water: -999.999.
        t.due("heat by air", x.book(0, 0), -2000);
        t.due("water by air", x.book(0, 1), -1000);
        t.due("heat", x.book(-1, 0), 1998000);
        RoomClimate y = new RoomClimate();
        y.room(7, 1000);
        y.hour(-1, 0, 0);
        // degrees 285714 * 7 = 1999998: two units stay behind, 2 - 7 = -5, by 7 = -1.
        t.due("heat just below 0", y.book(-1, 0), -5);
        t.due("degrees just below 0", y.degrees(), -1);
        t.due("water that air can't take", y.book(-1, 1), 1);
        t.due("damp of less than one each", y.damp(), 0);
    }

    private static void visitorsBringHeatAndWater() {
        RoomClimate x = new RoomClimate();
        x.room(10, 0);
        x.hour(0, 0, 0);
        t.due("heat by no visitors", x.book(3, 0), 0);
        t.due("water by no visitors", x.book(3, 1), 0);
        x.hour(0, 0, 99);
        t.due("heat by visitors", x.book(3, 0), 9900);
        t.due("water by visitors", x.book(3, 1), 4950);
        t.due("degrees with visitors", x.degrees(), 200990);
        t.due("damp with visitors", x.damp(), 100495);
        x.hour(0, 0, 1);
        t.due("heat by visitors", x.book(3, 0), 10000);
        t.due("water by visitors", x.book(3, 1), 5000);
        t.due("heat", x.book(-1, 0), 2010000);
        t.due("water", x.book(-1, 1), 1005000);
    }

    private static void stepsComeInTheirOrder() {
        RoomClimate x = new RoomClimate();
        x.room(1, 1000);
        x.wall(100, 1);
        x.goods(4);
        x.row(60000, 700);
        x.machine(0, 26000, 60000, 3000);
        x.machine(2, 5350, 60000, 900);
        x.hour(21000, 5000, 10);
        // Air: 21000, 5000. Wall: 1000 go to the layer, then it is as warm as the outside. Goods: 700.
        // Visitors: 1000 and 500. Warmer: 21000 is below 26000. Damper: 4800 is below 5350.
        t.due("heat by air", x.book(0, 0), 21000 - 2000000);
        t.due("water by air", x.book(0, 1), 5000 - 1000000);
        t.due("heat by walls, ahead of visitors and machines", x.book(1, 0), -1000);
        t.due("layer", x.layer(0), 21000);
        t.due("held, ahead of visitors and machines", x.held(), 700);
        t.due("heat by machines, behind visitors", x.book(4, 0), 3000);
        t.due("water by machines, behind visitors", x.book(4, 1), 900);
        t.due("degrees", x.degrees(), 24000);
        t.due("damp", x.damp(), 5700);
        x.hour(25000, 5000, 10);
        // Air: 25000, 5000. Wall: 4000. Goods: (2800 - 700) by 4 = 525. Visitors: 22000 and 4975. They stay on.
        t.due("heat by walls", x.book(1, 0), -5000);
        t.due("held", x.held(), 1225);
        t.due("degrees", x.degrees(), 25000);
        t.due("damp", x.damp(), 5875);
    }

    private static void booksAddUp() {
        RoomClimate x = Twins.grown(Twins::lived);
        for (int h = 0; h < 20; h++) {
            x.hour(3000 * h - 30000, 2500 * h, h);
            long heat = 2000000;
            long water = 1000000;
            for (int kind = 0; kind < 5; kind++) {
                heat += x.book(kind, 0);
                water += x.book(kind, 1);
            }
            t.due("heat: what was there and what came", x.book(-1, 0), heat);
            t.due("water: what was there and what came", x.book(-1, 1), water);
            t.due("what the goods hold is what they got", x.held(), -x.book(2, 1));
            t.due("walls book no water", x.book(1, 1), 0);
            t.due("goods book no heat", x.book(2, 0), 0);
        }
    }

    /**
     * "HEAT (any)": each turn fills a large room by air and presses all of it, in a small room, into a layer,
     * which gives it back to the next one. Behind 36 turns no int holds the heat, nor the layer's degrees.
     */
    private static void heatHasNoBound() {
        RoomClimate x = new RoomClimate();
        x.wall(100, 1);
        x.wall(0, 1);
        long heat = 0;
        for (int turn = 0; turn < 60; turn++) {
            x.room(1000, 1000);
            x.hour(60000, 60000, 0);
            // The room is at 60000 by air, gives these to the layer, and gets all that the layer had.
            heat = turn == 0 ? 60000000 - 40000 : heat + 60000000 - 60000;
            t.due("heat in turn " + turn, x.book(-1, 0), heat);
            t.due("degrees in turn " + turn, x.degrees(), heat / 1000);
            t.due("layer in turn " + turn, x.layer(0), 60000);
            x.room(1, 0);
            x.hour(0, 0, 0);
            t.due("heat that is left in turn " + turn, x.book(-1, 0), 60000);
        }
    }

    private static void objectsAreApart() {
        RoomClimate x = new RoomClimate();
        RoomClimate y = new RoomClimate();
        Twins.lived(x);
        t.due("another object", Twins.seen(y), Twins.seen(new RoomClimate()));
        t.due("another object later", Twins.future(y), Twins.future(new RoomClimate()));
    }
}
