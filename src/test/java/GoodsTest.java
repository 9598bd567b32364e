/** Promises 4, 5 and 11: goods, row, held; and the goods' part of an hour. */
public final class GoodsTest {
    private static final Tester t = new Tester();

    public static void main(String[] args) {
        goodsAnswerWhatWas();
        rowsAreNumbered();
        rowRefuses();
        goodsTakeAFourth();
        goodsGiveAFourthRoundedDown();
        theFirstRowNotBelowCounts();
        behindTheLastRowTheLastCounts();
        withoutRowsNothingIsHeld();
        goodsTakeNoMoreThanThereIs();
        t.end();
    }

    private static void goodsAnswerWhatWas() {
        RoomClimate x = new RoomClimate();
        t.due("goods(1000)", x.goods(1000), 0);
        t.due("goods(0)", x.goods(0), 1000);
        t.due("goods(7)", x.goods(7), 0);
        for (int wrong : new int[] {-1, 1001, Integer.MIN_VALUE, Integer.MAX_VALUE}) {
            t.refused("goods(" + wrong + ")", Tester.ARGUMENT, x, () -> x.goods(wrong));
        }
        t.due("goods(8)", x.goods(8), 7);
    }

    private static void rowsAreNumbered() {
        RoomClimate x = new RoomClimate();
        t.due("row 0", x.row(0, 0), 0);
        t.due("row 1", x.row(1, 10000), 1);
        t.due("row 2", x.row(2, 5), 2);
        t.due("row 3", x.row(300, 5), 3);
        t.due("row 4", x.row(59999, 5), 4);
        t.due("row 5", x.row(60000, 5), 5);
        t.due("rows", x.count(2), 6);
        t.refused("a seventh row", Tester.STATE, x, () -> x.row(60000, 5));
        t.refused("a seventh row, and wrong", Tester.STATE, x, () -> x.row(-1, -1));
    }

    private static void rowRefuses() {
        RoomClimate x = new RoomClimate();
        t.refused("row(-1, 5)", Tester.ARGUMENT, x, () -> x.row(-1, 5));
        x.row(5000, 5);
        int[][] wrong = {
            {60001, 5}, {-1, 5}, {6000, -1}, {6000, 10001}, {5000, 5}, {4999, 5}, {0, 5},
            {Integer.MAX_VALUE, 5}, {6000, Integer.MAX_VALUE}
        };
        for (int[] w : wrong) {
            t.refused("row(" + w[0] + ", " + w[1] + ")", Tester.ARGUMENT, x, () -> x.row(w[0], w[1]));
        }
        t.due("row behind refused ones", x.row(5001, 4), 1);
    }

    private static void goodsTakeAFourth() {
        RoomClimate x = new RoomClimate();
        x.goods(11);
        x.row(60000, 10);
        x.hour(20000, 10000, 0);
        t.due("held: 110 by 4", x.held(), 27);
        t.due("water", x.book(-1, 1), 1000000 - 27);
        t.due("water by goods", x.book(2, 1), -27);
        t.due("heat by goods", x.book(2, 0), 0);
        x.room(100, 0);
        x.hour(20000, 10000, 0);
        t.due("held: 83 by 4 more", x.held(), 47);
        t.due("water by goods", x.book(2, 1), -47);
        x.goods(1000);
        t.due("held stays", x.held(), 47);
        x.hour(20000, 10000, 0);
        t.due("held: 9953 by 4 more", x.held(), 47 + 2488);
    }

    private static void goodsGiveAFourthRoundedDown() {
        RoomClimate x = new RoomClimate();
        x.room(100, 0);
        x.goods(4);
        x.row(60000, 10);
        x.hour(20000, 10000, 0);
        t.due("held", x.held(), 10);
        x.goods(0);
        int[] due = {7, 5, 3, 2, 1, 0, 0};
        for (int held : due) {
            x.hour(20000, 10000, 0);
            t.due("held on the way down", x.held(), held);
            t.due("water by goods", x.book(2, 1), -held);
            t.due("water", x.book(-1, 1), 1000000 - held);
        }
    }

    private static void theFirstRowNotBelowCounts() {
        int[][] dues = {
            {5000, 100}, {5001, 200}, {12000, 200}, {12001, 300}, {30000, 300}, {30001, 300}, {60000, 300}
        };
        for (int[] due : dues) {
            RoomClimate x = new RoomClimate();
            x.room(1000, 1000);
            x.goods(4);
            x.row(5000, 100);
            x.row(12000, 200);
            x.row(30000, 300);
            x.hour(20000, due[0], 99);
            // Visitors come behind the goods: with them the damp would be above the row's.
            t.due("held at damp " + due[0], x.held(), due[1]);
        }
    }

    private static void behindTheLastRowTheLastCounts() {
        RoomClimate one = new RoomClimate();
        one.goods(4);
        one.row(0, 50);
        one.hour(20000, 10000, 0);
        t.due("held behind the only row", one.held(), 50);
        RoomClimate six = new RoomClimate();
        six.goods(4);
        for (int k = 0; k < 6; k++) {
            six.row(k, 10 * k);
        }
        six.hour(20000, 10000, 0);
        t.due("held behind six rows", six.held(), 50);
    }

    private static void withoutRowsNothingIsHeld() {
        RoomClimate x = new RoomClimate();
        x.goods(1000);
        x.hour(20000, 10000, 0);
        t.due("held without rows", x.held(), 0);
        t.due("water by goods", x.book(2, 1), 0);
    }

    private static void goodsTakeNoMoreThanThereIs() {
        RoomClimate x = new RoomClimate();
        x.room(1, 1000);
        x.goods(1000);
        x.row(60000, 10000);
        x.hour(20000, 500, 2);
        // They would take 2500000; the visitors' 100 come later.
        t.due("held", x.held(), 500);
        t.due("water", x.book(-1, 1), 100);
        t.due("water by goods", x.book(2, 1), -500);
    }
}
