/** Promises 1, 2, 7, 8, 9 and 13: a new object, room, hour, degrees, damp, book. */
public final class RoomAndHourTest {
    private static final Tester t = new Tester();

    public static void main(String[] args) {
        newObject();
        roomKeepsHeatAndWater();
        roomRefuses();
        airByShareAndVolume();
        quotientsAreRoundedDown();
        visitorsBringHeatAndWater();
        hourRefuses();
        hoursEndAtThreeHundred();
        bookRefuses();
        bigNumbersStayWhole();
        objectsAreApart();
        t.end();
    }

    private static void newObject() {
        RoomClimate x = new RoomClimate();
        t.due("NONE", RoomClimate.NONE, -1);
        t.due("degrees of a new room", x.degrees(), 20000);
        t.due("damp of a new room", x.damp(), 10000);
        t.due("held of a new room", x.held(), 0);
        t.due("heat of a new room", x.book(-1, 0), 2000000);
        t.due("water of a new room", x.book(-1, 1), 1000000);
        for (int kind = 0; kind < 5; kind++) {
            t.due("new heat book " + kind, x.book(kind, 0), 0);
            t.due("new water book " + kind, x.book(kind, 1), 0);
            t.due("new count " + kind, x.count(kind), 0);
        }
        for (int kind = 0; kind < 4; kind++) {
            t.due("new machine " + kind, x.on(kind), false);
            t.due("new points " + kind, x.points(kind), 0);
        }
        t.due("goods of a new room", x.goods(0), 0);
        x.hour(30000, 20000, 0);
        t.due("degrees by the first share and volume", x.degrees(), 21000);
        t.due("damp by the first share and volume", x.damp(), 11000);
    }

    private static void roomKeepsHeatAndWater() {
        RoomClimate x = new RoomClimate();
        x.room(1000, 0);
        t.due("degrees at 1000", x.degrees(), 2000);
        t.due("damp at 1000", x.damp(), 1000);
        t.due("heat at 1000", x.book(-1, 0), 2000000);
        t.due("water at 1000", x.book(-1, 1), 1000000);
        x.room(1, 1000);
        t.due("degrees at 1", x.degrees(), 2000000);
        t.due("damp at 1", x.damp(), 1000000);
        x.room(300, 0);
        t.due("degrees at 300", x.degrees(), 6666);
        t.due("damp at 300", x.damp(), 3333);
    }

    private static void roomRefuses() {
        RoomClimate x = new RoomClimate();
        int[][] wrong = {
            {0, 100}, {1001, 100}, {-1, 100}, {100, -1}, {100, 1001}, {Integer.MIN_VALUE, 0}, {1, Integer.MAX_VALUE}
        };
        for (int[] w : wrong) {
            t.refused("room(" + w[0] + ", " + w[1] + ")", Tester.ARGUMENT, x, () -> x.room(w[0], w[1]));
        }
        x.hour(30000, 20000, 0);
        t.due("share behind refused rooms", x.degrees(), 21000);
    }

    private static void airByShareAndVolume() {
        RoomClimate x = new RoomClimate();
        x.room(100, 0);
        t.due("hour", x.hour(-60000, 60000, 0), 0);
        t.due("degrees without air", x.degrees(), 20000);
        t.due("damp without air", x.damp(), 10000);
        x.room(100, 1000);
        t.due("hour", x.hour(-60000, 60000, 0), 1);
        t.due("degrees with all air new", x.degrees(), -60000);
        t.due("damp with all air new", x.damp(), 60000);
        t.due("heat by air", x.book(0, 0), -8000000);
        t.due("water by air", x.book(0, 1), 5000000);
        t.due("hour", x.hour(60000, 0, 0), 2);
        t.due("degrees with all air new", x.degrees(), 60000);
        t.due("damp with all air new", x.damp(), 0);
        t.due("heat by air", x.book(0, 0), 4000000);
        t.due("water by air", x.book(0, 1), -1000000);
        t.due("no heat by walls", x.book(1, 0), 0);
        t.due("no water by goods", x.book(2, 1), 0);
    }

    private static void quotientsAreRoundedDown() {
        RoomClimate x = new RoomClimate();
        x.room(3, 1);
        t.due("degrees at 3", x.degrees(), 666666);
        t.due("damp at 3", x.damp(), 333333);
        x.hour(0, 0, 0);
        // 1 * (0 - 666666) * 3 by 1000 = -1999.998, rounded down; the water: -999.999.
        t.due("heat by air", x.book(0, 0), -2000);
        t.due("water by air", x.book(0, 1), -1000);
        t.due("heat", x.book(-1, 0), 1998000);
        RoomClimate y = new RoomClimate();
        y.room(7, 1000);
        y.hour(-1, 0, 0);
        // degrees 285714 * 7 = 1999998: two units stay behind, 2 - 7 = -5, by 7 = -1.
        t.due("heat just below 0", y.book(-1, 0), -5);
        t.due("degrees just below 0", y.degrees(), -1);
        t.due("water that air can't take", y.book(-1, 1), 1);
        t.due("damp of less than one each", y.damp(), 0);
    }

    private static void visitorsBringHeatAndWater() {
        RoomClimate x = new RoomClimate();
        x.room(10, 0);
        x.hour(0, 0, 99);
        t.due("heat by visitors", x.book(3, 0), 9900);
        t.due("water by visitors", x.book(3, 1), 4950);
        t.due("degrees with visitors", x.degrees(), 200990);
        t.due("damp with visitors", x.damp(), 100495);
        x.hour(0, 0, 1);
        t.due("heat by visitors", x.book(3, 0), 10000);
        t.due("water by visitors", x.book(3, 1), 5000);
        t.due("heat", x.book(-1, 0), 2010000);
        t.due("water", x.book(-1, 1), 1005000);
    }

    private static void hourRefuses() {
        RoomClimate x = new RoomClimate();
        x.hour(10000, 5000, 3);
        int[][] wrong = {
            {-60001, 0, 0}, {60001, 0, 0}, {0, -1, 0}, {0, 60001, 0}, {0, 0, -1}, {0, 0, 100},
            {Integer.MIN_VALUE, 0, 0}, {0, Integer.MAX_VALUE, 0}, {0, 0, Integer.MAX_VALUE}
        };
        for (int[] w : wrong) {
            String call = "hour(" + w[0] + ", " + w[1] + ", " + w[2] + ")";
            t.refused(call, Tester.ARGUMENT, x, () -> x.hour(w[0], w[1], w[2]));
        }
        t.due("hour behind refused ones", x.hour(60000, 60000, 99), 1);
        t.due("hour with the least", x.hour(-60000, 0, 0), 2);
    }

    private static void hoursEndAtThreeHundred() {
        RoomClimate x = new RoomClimate();
        for (int h = 0; h < 300; h++) {
            t.due("hour " + h, x.hour(20000, 10000, 0), h);
        }
        t.due("hours", x.count(0), 300);
        t.due("hour 301", Tester.thrownBy(() -> x.hour(20000, 10000, 0)), "IllegalStateException");
        t.due("hour 301, and wrong", Tester.thrownBy(() -> x.hour(60001, -1, 100)), "IllegalStateException");
        t.due("hours", x.count(0), 300);
        t.due("plan behind all hours", x.plan(1, 20000, 10000), 18000);
    }

    private static void bookRefuses() {
        RoomClimate x = new RoomClimate();
        int[][] wrong = {
            {-2, 0}, {5, 0}, {0, -1}, {0, 2}, {-1, 2}, {-1, -1}, {4, 2},
            {Integer.MIN_VALUE, 1}, {Integer.MAX_VALUE, 1}, {1, Integer.MAX_VALUE}
        };
        for (int[] w : wrong) {
            t.refused("book(" + w[0] + ", " + w[1] + ")", Tester.INDEX, x, () -> x.book(w[0], w[1]));
        }
    }

    private static void bigNumbersStayWhole() {
        RoomClimate x = new RoomClimate();
        x.room(1000, 1000);
        x.hour(60000, 60000, 0);
        t.due("the most heat by air", x.book(-1, 0), 60000000);
        x.room(1, 1000);
        t.due("degrees in the least room", x.degrees(), 60000000);
        x.hour(-60000, 0, 0);
        t.due("heat by air", x.book(0, 0), -60000 - 2000000);
        t.due("water", x.book(-1, 1), 0);
    }

    private static void objectsAreApart() {
        RoomClimate x = new RoomClimate();
        RoomClimate y = new RoomClimate();
        x.wall(50, 50);
        x.row(5000, 5);
        x.rule(0, 0, 1);
        x.risk(0, 0, 5);
        x.machine(0, 30000, 30000, 7);
        x.hour(0, 0, 9);
        t.due("another object", Tester.seen(y), Tester.seen(new RoomClimate()));
    }
}
