/** Promises 3, 10 and 14: wall, layer, dew; and the walls' part of an hour. */
public final class WallTest {
    private static final Tester t = new Tester();

    public static void main(String[] args) {
        wallsAreNumbered();
        wallRefuses();
        layerRefuses();
        flowsGoOutwardsInTurn();
        oneLayerLosesToTheOutside();
        conductanceZeroKeepsApart();
        layersHeatsAreRoundedDown();
        dewByLayers();
        dewWhereItFreezes();
        t.end();
    }

    private static void wallsAreNumbered() {
        RoomClimate x = new RoomClimate();
        t.due("wall 0", x.wall(0, 1), 0);
        t.due("wall 1", x.wall(100, 1000), 1);
        t.due("wall 2", x.wall(50, 7), 2);
        t.due("wall 3", x.wall(1, 1), 3);
        t.due("wall 4", x.wall(1, 1), 4);
        t.due("layers", x.count(1), 5);
        for (int k = 0; k < 5; k++) {
            t.due("layer when told " + k, x.layer(k), 20000);
        }
        t.refused("a sixth wall", Tester.STATE, x, () -> x.wall(1, 1));
        t.refused("a sixth wall, and wrong", Tester.STATE, x, () -> x.wall(-1, 0));
    }

    private static void wallRefuses() {
        RoomClimate x = new RoomClimate();
        x.wall(10, 10);
        int[][] wrong = {
            {-1, 10}, {101, 10}, {10, 0}, {10, 1001}, {10, -1}, {Integer.MAX_VALUE, 1}, {1, Integer.MIN_VALUE}
        };
        for (int[] w : wrong) {
            t.refused("wall(" + w[0] + ", " + w[1] + ")", Tester.ARGUMENT, x, () -> x.wall(w[0], w[1]));
        }
        t.due("wall behind refused ones", x.wall(10, 10), 1);
    }

    private static void layerRefuses() {
        RoomClimate x = new RoomClimate();
        t.refused("layer(0) without walls", Tester.INDEX, x, () -> x.layer(0));
        t.refused("dew(0) without walls", Tester.INDEX, x, () -> x.dew(0));
        x.wall(10, 10);
        for (int k : new int[] {-1, 1, 4, 5, Integer.MIN_VALUE, Integer.MAX_VALUE}) {
            t.refused("layer(" + k + ")", Tester.INDEX, x, () -> x.layer(k));
            t.refused("dew(" + k + ")", Tester.INDEX, x, () -> x.dew(k));
        }
    }

    private static void flowsGoOutwardsInTurn() {
        RoomClimate x = new RoomClimate();
        x.room(100, 1000);
        x.wall(50, 2);
        x.wall(20, 10);
        x.wall(100, 4);
        x.hour(30000, 10000, 0);
        // Air: 30000. Flow 0: 50 * 10000 by 100 = 5000: room 2995000, layer 0: 45000, 22500.
        // Flow 1: 20 * 2500 by 100 = 500: layer 0: 44500, layer 1: 200500, 20050.
        // Flow 2: 50: layer 1: 200450, layer 2: 80050, 20012. From outside: 9988: 90038.
        t.due("room", x.degrees(), 29950);
        t.due("layer 0", x.layer(0), 22250);
        t.due("layer 1", x.layer(1), 20045);
        t.due("layer 2", x.layer(2), 22509);
        t.due("heat by walls", x.book(1, 0), -5000);
        t.due("water by walls", x.book(1, 1), 0);
        t.due("heat by air", x.book(0, 0), 1000000);
        t.due("heat", x.book(-1, 0), 2995000);
    }

    private static void oneLayerLosesToTheOutside() {
        RoomClimate x = new RoomClimate();
        x.room(100, 0);
        x.wall(10, 1);
        x.hour(-10000, 0, 0);
        // Flow 0: 0. Then 10 * (-10000 - 20000) by 100 = -3000.
        t.due("layer", x.layer(0), 17000);
        t.due("room", x.book(-1, 0), 2000000);
        x.hour(-10000, 0, 0);
        // Flow 300: 17300; then 10 * -27300 by 100 = -2730.
        t.due("room", x.book(-1, 0), 1999700);
        t.due("layer", x.layer(0), 14570);
        x.wall(10, 1);
        t.due("a layer told later", x.layer(1), 20000);
        x.hour(-10000, 0, 0);
        // Room 19997: 10 * 5427 by 100 = 542: 15112; 10 * (15112 - 20000) by 100 = -488.8: -489.
        t.due("inner layer", x.layer(0), 15112 + 489);
        t.due("outer layer", x.layer(1), 20000 - 489 - 2952);
        t.due("heat by walls", x.book(1, 0), -300 - 542);
    }

    private static void conductanceZeroKeepsApart() {
        RoomClimate x = new RoomClimate();
        x.room(100, 1000);
        x.wall(0, 5);
        x.hour(-60000, 0, 0);
        t.due("layer", x.layer(0), 20000);
        t.due("room", x.degrees(), -60000);
        t.due("heat by walls", x.book(1, 0), 0);
    }

    private static void layersHeatsAreRoundedDown() {
        RoomClimate x = new RoomClimate();
        x.room(100, 1000);
        x.wall(1, 1000);
        x.hour(19999, 0, 0);
        // Flow: 1 * -1 by 100 = -1: layer 19999999, 19999. From outside: 0.
        t.due("layer", x.layer(0), 19999);
        t.due("room", x.book(-1, 0), 1999901);
        RoomClimate y = new RoomClimate();
        y.room(100, 0);
        y.wall(100, 1);
        y.hour(-1, 0, 0);
        t.due("layer below 0", y.layer(0), -1);
    }

    private static void dewByLayers() {
        RoomClimate x = new RoomClimate();
        x.room(100, 1000);
        x.wall(0, 1);
        x.hour(20000, 20000, 0);
        t.due("dew at equal numbers", x.dew(0), false);
        x.hour(20000, 20001, 0);
        t.due("dew just above", x.dew(0), true);
        x.hour(20000, 19999, 0);
        t.due("dew just below", x.dew(0), false);
    }

    private static void dewWhereItFreezes() {
        RoomClimate x = new RoomClimate();
        x.room(100, 1000);
        x.wall(100, 1);
        x.hour(-5000, 0, 0);
        t.due("the layer's degrees", x.layer(0), -5000);
        t.due("dew without water below 0", x.dew(0), false);
        x.hour(-5000, 1, 0);
        t.due("dew with a little water below 0", x.dew(0), true);
        x.hour(0, 1, 0);
        t.due("the layer's degrees", x.layer(0), 0);
        t.due("dew with a little water at 0", x.dew(0), true);
        x.hour(0, 0, 0);
        t.due("dew without water at 0", x.dew(0), false);
    }
}
