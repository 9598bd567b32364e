/** Promises 3, 10 and 14: wall, layer, dew; and the walls' part of an hour. */
public final class WallTest {
    private static final Tester t = new Tester();

    public static void main(String[] args) {
        wallsAtTheirEdges();
        withoutLayersNothingHappens();
        flowsGoOutwardsInTurn();
        oneLayerLosesToTheOutside();
        conductanceZeroKeepsApart();
        flowsAreRoundedDown();
        theOutsideIsRoundedDown();
        layersHeatsAreRoundedDown();
        aLayerIsToldWithItsOwnHeat();
        dewByDegreesAndDamp();
        dewOfEachLayer();
        t.end();
    }

    private static void wallsAtTheirEdges() {
        int[][] walls = {{0, 1}, {0, 1000}, {100, 1}, {100, 1000}, {50, 500}};
        for (int[] wall : walls) {
            RoomClimate x = new RoomClimate();
            t.due("the first wall", x.wall(wall[0], wall[1]), 0);
            t.due("layer when told", x.layer(0), 20000);
            x.room(100, 0);
            x.hour(30000, 0, 0);
            // Nothing comes from the room, which is as warm; from outside conductance * 10000 by 100.
            t.due("layer by the outside", x.layer(0), 20000 + wall[0] * 100 / wall[1]);
            t.due("heat by walls", x.book(1, 0), 0);
        }
    }

    private static void withoutLayersNothingHappens() {
        RoomClimate x = new RoomClimate();
        x.room(100, 0);
        x.hour(-60000, 0, 0);
        x.hour(60000, 0, 0);
        t.due("heat by walls", x.book(1, 0), 0);
        t.due("heat", x.book(-1, 0), 2000000);
        t.due("layers", x.count(1), 0);
    }

    private static void flowsGoOutwardsInTurn() {
        RoomClimate x = new RoomClimate();
        x.room(100, 1000);
        x.wall(50, 2);
        x.wall(20, 10);
        x.wall(100, 4);
        x.hour(30000, 10000, 0);
        // Air: 30000. Flow 0: 50 * 10000 by 100 = 5000: room 2995000, layer 0: 45000, 22500.
        // Flow 1: 20 * 2500 by 100 = 500: layer 0: 44500, layer 1: 200500, 20050.
        // Flow 2: 50: layer 1: 200450, layer 2: 80050, 20012. From outside: 9988: 90038.
        t.due("room", x.degrees(), 29950);
        t.due("layer 0", x.layer(0), 22250);
        t.due("layer 1", x.layer(1), 20045);
        t.due("layer 2", x.layer(2), 22509);
        t.due("heat by walls", x.book(1, 0), -5000);
        t.due("water by walls", x.book(1, 1), 0);
        t.due("heat by air", x.book(0, 0), 1000000);
        t.due("heat", x.book(-1, 0), 2995000);
    }

    private static void oneLayerLosesToTheOutside() {
        RoomClimate x = new RoomClimate();
        x.room(100, 0);
        x.wall(10, 1);
        x.hour(-10000, 0, 0);
        // Flow 0: 0. Then 10 * (-10000 - 20000) by 100 = -3000.
        t.due("layer", x.layer(0), 17000);
        t.due("room", x.book(-1, 0), 2000000);
        x.hour(-10000, 0, 0);
        // Flow 300: 17300; then 10 * -27300 by 100 = -2730.
        t.due("room", x.book(-1, 0), 1999700);
        t.due("layer", x.layer(0), 14570);
        x.wall(10, 1);
        t.due("a layer told later", x.layer(1), 20000);
        x.hour(-10000, 0, 0);
        // Room 19997: 10 * 5427 by 100 = 542: 15112; 10 * (15112 - 20000) by 100 = -488.8: -489.
        t.due("inner layer", x.layer(0), 15112 + 489);
        t.due("outer layer", x.layer(1), 20000 - 489 - 2952);
        t.due("heat by walls", x.book(1, 0), -300 - 542);
    }

    private static void conductanceZeroKeepsApart() {
        RoomClimate x = new RoomClimate();
        x.room(100, 1000);
        x.wall(0, 5);
        x.hour(-60000, 0, 0);
        t.due("layer", x.layer(0), 20000);
        t.due("room", x.degrees(), -60000);
        t.due("heat by walls", x.book(1, 0), 0);
    }

    /** With conductance 1 the flow is a hundredth of the difference, here of the air in the room to the layer. */
    private static void flowsAreRoundedDown() {
        int[][] dues = {
            {0, 0}, {1, 0}, {99, 0}, {100, 1}, {199, 1}, {200, 2}, {-1, -1}, {-99, -1}, {-100, -1}, {-101, -2}
        };
        for (int[] due : dues) {
            RoomClimate x = new RoomClimate();
            x.room(100, 1000);
            x.wall(1, 1);
            x.wall(0, 1);
            x.hour(20000 + due[0], 0, 0);
            t.due("flow at a difference of " + due[0], -x.book(1, 0), due[1]);
            t.due("layer at a difference of " + due[0], x.layer(0), 20000 + due[1]);
        }
    }

    private static void theOutsideIsRoundedDown() {
        int[][] dues = {
            {0, 0}, {1, 0}, {99, 0}, {100, 1}, {199, 1}, {200, 2}, {-1, -1}, {-99, -1}, {-100, -1}, {-101, -2}
        };
        for (int[] due : dues) {
            RoomClimate x = new RoomClimate();
            x.room(100, 0);
            x.wall(1, 1);
            x.hour(20000 + due[0], 0, 0);
            t.due("layer by a difference outside of " + due[0], x.layer(0), 20000 + due[1]);
            t.due("heat by walls", x.book(1, 0), 0);
        }
    }

    private static void layersHeatsAreRoundedDown() {
        RoomClimate x = new RoomClimate();
        x.room(100, 1000);
        x.wall(1, 1000);
        x.hour(19999, 0, 0);
        // Flow: 1 * -1 by 100 = -1: layer 19999999, 19999. From outside: 0.
        t.due("layer", x.layer(0), 19999);
        t.due("room", x.book(-1, 0), 1999901);
        RoomClimate y = new RoomClimate();
        y.room(100, 0);
        y.wall(100, 1);
        y.hour(-1, 0, 0);
        t.due("layer below 0", y.layer(0), -1);
        RoomClimate z = new RoomClimate();
        z.room(1, 1000);
        z.wall(100, 3);
        z.hour(-60000, 0, 0);
        // Flow: -80000: layer -20000, by 3 = -6667. From outside: -53333: -73333, by 3 = -24444.3.
        t.due("layer below 0, in parts", z.layer(0), -24445);
        t.due("room", z.degrees(), 20000);
    }

    private static void aLayerIsToldWithItsOwnHeat() {
        RoomClimate x = new RoomClimate();
        x.room(1, 1000);
        x.hour(-60000, 0, 0);
        for (int k = 0; k < 5; k++) {
            x.wall(100, 1 + k * 249);
            t.due("layer of a cold room, when told", x.layer(k), 20000);
        }
        t.due("heat when layers are told", x.book(-1, 0), -60000);
    }

    /** The layer's degrees, the room's damp, and whether there is dew. */
    private static void dewByDegreesAndDamp() {
        int[][] dues = {
            {20000, 19999, 0}, {20000, 20000, 0}, {20000, 20001, 1}, {2, 2, 0}, {2, 3, 1}, {1, 0, 0}, {1, 1, 0},
            {1, 2, 1}, {0, 0, 0}, {0, 1, 1}, {-1, 0, 0}, {-1, 1, 1}, {-60000, 0, 0}, {-60000, 1, 1}, {60000, 60000, 0},
            {59999, 60000, 1}
        };
        for (int[] due : dues) {
            RoomClimate x = new RoomClimate();
            x.room(1, 1000);
            x.wall(100, 1);
            x.hour(due[0], 0, 0);
            x.hour(due[0], due[1], 0);
            t.due("the layer's degrees", x.layer(0), due[0]);
            t.due("the room's damp", x.damp(), due[1]);
            t.due("dew at " + due[0] + " with " + due[1], x.dew(0), due[2] == 1);
        }
    }

    private static void dewOfEachLayer() {
        int[][] dues = {{10000, 0, 0}, {10001, 1, 0}, {20000, 1, 0}, {20001, 1, 1}};
        for (int[] due : dues) {
            RoomClimate x = new RoomClimate();
            x.room(1, 1000);
            x.wall(100, 1);
            x.hour(10000, 0, 0);
            x.wall(0, 1);
            x.hour(10000, due[0], 0);
            t.due("inner layer", x.layer(0), 10000);
            t.due("outer layer", x.layer(1), 20000);
            t.due("dew on the inner layer with " + due[0], x.dew(0), due[1] == 1);
            t.due("dew on the outer layer with " + due[0], x.dew(1), due[2] == 1);
        }
    }
}
