/** Promises 4, 5 and 11: goods, row, held; and the goods' part of an hour. */
public final class GoodsTest {
    private static final Tester t = new Tester();

    public static void main(String[] args) {
        goodsAnswerWhatWas();
        whatIsTakenIsRoundedDown();
        theMostGoods();
        noGoodsHoldNothing();
        goodsTakeAFourth();
        goodsGiveAFourthRoundedDown();
        theFirstRowNotBelowCounts();
        behindTheLastRowTheLastCounts();
        withoutRowsNothingIsHeld();
        goodsTakeNoMoreThanThereIs();
        goodsTakeJustAllThereIs();
        goodsGiveToADryRoom();
        aRowOfDampNothing();
        aRowOfTheHighestDamp();
        t.end();
    }

    private static void goodsAnswerWhatWas() {
        RoomClimate x = new RoomClimate();
        t.due("goods(1000)", x.goods(1000), 0);
        t.due("goods(0)", x.goods(0), 1000);
        t.due("goods(0) again", x.goods(0), 0);
        t.due("goods(1)", x.goods(1), 0);
        t.due("goods(7)", x.goods(7), 1);
        t.due("a refused call", Twins.thrownBy(x, y -> y.goods(1001)), "IllegalArgumentException");
        t.due("goods(8)", x.goods(8), 7);
    }

    /** One kilogram of goods that hold nothing yet. */
    private static void whatIsTakenIsRoundedDown() {
        int[][] dues = {{0, 0}, {1, 0}, {3, 0}, {4, 1}, {7, 1}, {8, 2}, {9999, 2499}, {10000, 2500}};
        for (int[] due : dues) {
            RoomClimate x = new RoomClimate();
            x.goods(1);
            x.row(60000, due[0]);
            x.hour(20000, 10000, 0);
            t.due("held of " + due[0], x.held(), due[1]);
            t.due("water by goods", x.book(2, 1), -due[1]);
        }
    }

    private static void theMostGoods() {
        RoomClimate x = new RoomClimate();
        x.room(1000, 1000);
        x.goods(1000);
        x.row(60000, 10000);
        int[] dues = {2500000, 4375000, 5781250};
        for (int due : dues) {
            x.hour(20000, 60000, 0);
            t.due("held of ten millions", x.held(), due);
            t.due("water by goods", x.book(2, 1), -due);
        }
        x.goods(0);
        x.hour(20000, 60000, 0);
        t.due("held when the goods are gone: less 5781250 by 4, rounded up", x.held(), 5781250 - 1445313);
    }

    private static void noGoodsHoldNothing() {
        RoomClimate x = new RoomClimate();
        x.row(60000, 10000);
        x.hour(20000, 10000, 0);
        t.due("held by no goods", x.held(), 0);
        t.due("water by no goods", x.book(2, 1), 0);
    }

    private static void goodsTakeAFourth() {
        RoomClimate x = new RoomClimate();
        x.goods(11);
        x.row(60000, 10);
        x.hour(20000, 10000, 0);
        t.due("held: 110 by 4", x.held(), 27);
        t.due("water", x.book(-1, 1), 1000000 - 27);
        t.due("water by goods", x.book(2, 1), -27);
        t.due("heat by goods", x.book(2, 0), 0);
        x.room(100, 0);
        x.hour(20000, 10000, 0);
        t.due("held: 83 by 4 more", x.held(), 47);
        t.due("water by goods", x.book(2, 1), -47);
        x.goods(1000);
        t.due("held stays", x.held(), 47);
        x.hour(20000, 10000, 0);
        t.due("held: 9953 by 4 more", x.held(), 47 + 2488);
    }

    private static void goodsGiveAFourthRoundedDown() {
        RoomClimate x = new RoomClimate();
        x.room(100, 0);
        x.goods(4);
        x.row(60000, 10);
        x.hour(20000, 10000, 0);
        t.due("held", x.held(), 10);
        x.goods(0);
        int[] due = {7, 5, 3, 2, 1, 0, 0};
        for (int held : due) {
            x.hour(20000, 10000, 0);
            t.due("held on the way down", x.held(), held);
            t.due("water by goods", x.book(2, 1), -held);
            t.due("water", x.book(-1, 1), 1000000 - held);
        }
    }

    private static void theFirstRowNotBelowCounts() {
        int[][] dues = {
            {5000, 100}, {5001, 200}, {12000, 200}, {12001, 300}, {30000, 300}, {30001, 300}, {60000, 300}
        };
        for (int[] due : dues) {
            RoomClimate x = new RoomClimate();
            x.room(1000, 1000);
            x.goods(4);
            x.row(5000, 100);
            x.row(12000, 200);
            x.row(30000, 300);
            x.hour(20000, due[0], 99);
            // Visitors come behind the goods: with them the damp would be above the row's.
            t.due("held at damp " + due[0], x.held(), due[1]);
        }
    }

    private static void behindTheLastRowTheLastCounts() {
        RoomClimate one = new RoomClimate();
        one.goods(4);
        one.row(0, 50);
        one.hour(20000, 10000, 0);
        t.due("held behind the only row", one.held(), 50);
        RoomClimate six = new RoomClimate();
        six.goods(4);
        for (int k = 0; k < 6; k++) {
            six.row(k, 10 * k);
        }
        six.hour(20000, 10000, 0);
        t.due("held behind six rows", six.held(), 50);
    }

    private static void withoutRowsNothingIsHeld() {
        RoomClimate x = new RoomClimate();
        x.goods(1000);
        x.hour(20000, 10000, 0);
        t.due("held without rows", x.held(), 0);
        t.due("water by goods", x.book(2, 1), 0);
    }

    private static void goodsTakeNoMoreThanThereIs() {
        RoomClimate x = new RoomClimate();
        x.room(1, 1000);
        x.goods(1000);
        x.row(60000, 10000);
        x.hour(20000, 500, 2);
        // They would take 2500000; the visitors' 100 come later.
        t.due("held", x.held(), 500);
        t.due("water", x.book(-1, 1), 100);
        t.due("water by goods", x.book(2, 1), -500);
    }

    /** What they would take is one less than the room's water, all of it, and one more. */
    private static void goodsTakeJustAllThereIs() {
        int[][] dues = {{499, 499, 1}, {500, 500, 0}, {501, 500, 0}};
        for (int[] due : dues) {
            RoomClimate x = new RoomClimate();
            x.room(1, 1000);
            x.goods(4);
            x.row(60000, due[0]);
            x.hour(20000, 500, 0);
            t.due("held where " + due[0] + " would be taken of 500", x.held(), due[1]);
            t.due("water that is left", x.book(-1, 1), due[2]);
        }
        RoomClimate dry = new RoomClimate();
        dry.room(1, 1000);
        dry.goods(1000);
        dry.row(60000, 10000);
        dry.hour(20000, 0, 0);
        t.due("held in a room without water", dry.held(), 0);
        t.due("water by goods", dry.book(2, 1), 0);
    }

    private static void goodsGiveToADryRoom() {
        RoomClimate x = new RoomClimate();
        x.room(1, 1000);
        x.goods(4);
        x.row(60000, 10);
        x.hour(20000, 5000, 0);
        t.due("held", x.held(), 10);
        x.goods(0);
        x.hour(20000, 0, 0);
        t.due("held when they give", x.held(), 7);
        t.due("water that they gave", x.book(-1, 1), 3);
    }

    /** A damp of 0, with some water still, is not above a row's damp of 0; a damp of 1 is. */
    private static void aRowOfDampNothing() {
        int[][] dues = {{999, 8}, {1000, 200}};
        for (int[] due : dues) {
            RoomClimate x = new RoomClimate();
            x.room(1, 1000);
            x.hour(20000, due[0], 0);
            x.room(1000, 0);
            t.due("damp", x.damp(), due[0] / 1000);
            x.goods(4);
            x.row(0, 8);
            x.row(1, 200);
            x.hour(20000, 0, 0);
            t.due("held with a water of " + due[0], x.held(), due[1]);
        }
    }

    private static void aRowOfTheHighestDamp() {
        int[][] dues = {{999, 60060, 300}, {1000, 60000, 300}};
        for (int[] due : dues) {
            RoomClimate x = new RoomClimate();
            x.room(1000, 1000);
            x.hour(20000, 60000, 0);
            x.room(due[0], 0);
            t.due("damp", x.damp(), due[1]);
            x.goods(4);
            x.row(59999, 100);
            x.row(60000, 300);
            x.hour(20000, 0, 0);
            t.due("held at damp " + due[1], x.held(), due[2]);
        }
    }
}
