/** Promises 19 to 22: sensor, check, corrected, silent. */
public final class SensorTest {
    private static final Tester t = new Tester();

    public static void main(String[] args) {
        valuesAtTheirEdges();
        valuesTakeThePlaceOfEarlierOnes();
        checksTakeThePlaceOfEarlierOnes();
        driftOnTheLine();
        driftIsRoundedDown();
        driftFollowsAValueToldAnew();
        theWidestNumbers();
        allHoursWithOneCheck();
        silentFindsTheLongest();
        silentFromAnHourOn();
        silentInOneHour();
        silentAtEitherEnd();
        aCheckNeedsAValue();
        checksOfNeighbours();
        t.end();
    }

    private static RoomClimate afterHours(int hours) {
        RoomClimate x = new RoomClimate();
        for (int h = 0; h < hours; h++) {
            x.hour(20000, 10000, 0);
        }
        return x;
    }

    private static void valuesAtTheirEdges() {
        for (int v : new int[] {-100000, -99999, -1, 0, 1, 99999, 100000}) {
            RoomClimate x = afterHours(2);
            x.sensor(1, v);
            t.due("value " + v, x.corrected(1), v);
            t.due("the hour ahead of it", x.corrected(0), -200000);
            x.check(1, -v);
            t.due("right instead of " + v, x.corrected(1), -v);
            x.sensor(0, v);
            t.due("value " + v + " ahead of the check", x.corrected(0), -v);
            x.sensor(0, -v);
            // The drift is twice the value, the other way: at the edges no value's bounds hold it.
            t.due("value " + -v + " ahead of the check", x.corrected(0), -3 * v);
        }
    }

    private static void valuesTakeThePlaceOfEarlierOnes() {
        RoomClimate x = afterHours(2);
        t.due("corrected without a value", x.corrected(1), -200000);
        x.sensor(1, 0);
        t.due("corrected without checks", x.corrected(1), 0);
        x.sensor(1, 77);
        t.due("corrected behind a second value", x.corrected(1), 77);
        t.due("another hour", x.corrected(0), -200000);
    }

    private static void checksTakeThePlaceOfEarlierOnes() {
        RoomClimate x = afterHours(4);
        x.sensor(0, 10);
        x.sensor(3, 20);
        x.check(3, 25);
        t.due("checks", x.count(4), 1);
        t.due("ahead of the only check", x.corrected(0), 15);
        t.due("at the check", x.corrected(3), 25);
        t.due("between, without a value", x.corrected(1), -200000);
        x.check(3, 18);
        t.due("checks", x.count(4), 1);
        t.due("ahead of the only check", x.corrected(0), 8);
        x.check(0, 11);
        t.due("checks", x.count(4), 2);
        t.due("at the new check", x.corrected(0), 11);
        t.due("at the other one", x.corrected(3), 18);
    }

    private static void driftOnTheLine() {
        RoomClimate x = afterHours(10);
        for (int h = 0; h < 10; h++) {
            x.sensor(h, 1000 * h);
        }
        x.check(6, 6030);
        x.check(2, 2010);
        x.check(8, 7990);
        int[] drifts = {10, 10, 10, 15, 20, 25, 30, 10, -10, -10};
        for (int h = 0; h < 10; h++) {
            t.due("corrected(" + h + ")", x.corrected(h), 1000 * h + drifts[h]);
        }
        t.due("checks", x.count(4), 3);
    }

    private static void driftIsRoundedDown() {
        RoomClimate x = afterHours(8);
        for (int h = 0; h < 8; h++) {
            x.sensor(h, 0);
        }
        x.check(0, -1);
        x.check(7, -6);
        // -1 + (-5 * h by 7)
        int[] down = {-1, -2, -3, -4, -4, -5, -6, -6};
        for (int h = 0; h < 8; h++) {
            t.due("falling drift at " + h, x.corrected(h), down[h]);
        }
        x.check(0, -6);
        x.check(7, -1);
        int[] up = {-6, -6, -5, -4, -4, -3, -2, -1};
        for (int h = 0; h < 8; h++) {
            t.due("rising drift at " + h, x.corrected(h), up[h]);
        }
    }

    private static void driftFollowsAValueToldAnew() {
        RoomClimate x = afterHours(3);
        x.sensor(0, 100);
        x.sensor(2, 500);
        x.check(0, 110);
        t.due("behind the check", x.corrected(2), 510);
        x.sensor(0, 90);
        t.due("at the check, by a new value", x.corrected(0), 110);
        t.due("behind it, by a new value", x.corrected(2), 520);
        t.due("checks", x.count(4), 1);
    }

    private static void theWidestNumbers() {
        RoomClimate x = afterHours(300);
        x.sensor(0, 100000);
        x.check(0, -100000);
        x.sensor(299, -100000);
        x.check(299, 100000);
        x.sensor(298, 100000);
        x.sensor(1, -100000);
        t.due("the least drift", x.corrected(0), -100000);
        t.due("the greatest drift", x.corrected(299), 100000);
        // -200000 + (400000 * 298 by 299 = 398662.2)
        t.due("nearly the greatest", x.corrected(298), 100000 + 198662);
        // -200000 + (400000 by 299 = 1337.8)
        t.due("nearly the least", x.corrected(1), -100000 - 198663);
    }

    private static void allHoursWithOneCheck() {
        RoomClimate x = afterHours(300);
        x.sensor(0, 10);
        x.sensor(299, 20);
        t.due("the last hour without checks", x.corrected(299), 20);
        x.check(0, 13);
        t.due("the last hour behind the only check", x.corrected(299), 23);
        t.due("silent among all hours", x.silent(0), 1);
        t.due("silent in the last hour", x.silent(299), RoomClimate.NONE);
    }

    private static void silentFindsTheLongest() {
        RoomClimate x = afterHours(10);
        t.due("silent in all hours", x.silent(0), 0);
        x.sensor(2, 5);
        t.due("silent behind 2", x.silent(0), 3);
        x.sensor(5, 5);
        t.due("silent behind 5", x.silent(0), 6);
        x.sensor(8, 5);
        // 0 1 . 3 4 . 6 7 . 9: three rows of two.
        t.due("of equal ones the first", x.silent(0), 0);
        x.sensor(0, 5);
        t.due("silent behind 0", x.silent(0), 3);
        for (int h = 0; h < 10; h++) {
            x.sensor(h, 0);
        }
        t.due("silent if all have one", x.silent(0), RoomClimate.NONE);
        x.hour(0, 0, 0);
        t.due("silent in the last hour", x.silent(0), 10);
        t.due("silent in the last hour", x.silent(10), 10);
    }

    private static void silentFromAnHourOn() {
        RoomClimate x = afterHours(9);
        x.sensor(4, 5);
        x.sensor(8, 5);
        // 0 1 2 3 . 5 6 7 .
        t.due("silent(0)", x.silent(0), 0);
        t.due("silent(1), of equal ones the first", x.silent(1), 1);
        t.due("silent(2)", x.silent(2), 5);
        t.due("silent(4)", x.silent(4), 5);
        t.due("silent(6)", x.silent(6), 6);
        t.due("silent(7)", x.silent(7), 7);
        t.due("silent(8)", x.silent(8), RoomClimate.NONE);
    }

    private static void silentInOneHour() {
        RoomClimate x = afterHours(1);
        t.due("silent in the only hour", x.silent(0), 0);
        x.sensor(0, -100000);
        t.due("silent with a value in the only hour", x.silent(0), RoomClimate.NONE);
    }

    private static void silentAtEitherEnd() {
        RoomClimate x = afterHours(7);
        x.sensor(3, 0);
        // 0 1 2 . 4 5 6: equal ones, at both ends.
        t.due("of equal ones the first", x.silent(0), 0);
        t.due("the row that is cut is shorter", x.silent(1), 4);
        t.due("silent from a value on", x.silent(3), 4);
        x.hour(0, 0, 0);
        t.due("the last row has grown", x.silent(0), 4);
        x.sensor(7, 0);
        t.due("of equal ones the first again", x.silent(0), 0);
        t.due("silent in an hour with a value", x.silent(7), RoomClimate.NONE);
        t.due("silent in the hour ahead of it", x.silent(6), 6);
    }

    private static void aCheckNeedsAValue() {
        RoomClimate x = afterHours(2);
        t.due("check without a value", Twins.thrownBy(x, y -> y.check(0, 5)), "IllegalStateException");
        x.sensor(1, 3);
        t.due("check beside the value", Twins.thrownBy(x, y -> y.check(0, 5)), "IllegalStateException");
        t.due("checks", x.count(4), 0);
        x.sensor(0, 0);
        t.due("check with a value of 0", Twins.thrownBy(x, y -> y.check(0, 5)), "nothing");
        t.due("checks", x.count(4), 1);
        t.due("corrected", x.corrected(0), 5);
        t.due("a refused check", Twins.thrownBy(x, y -> y.check(0, 100001)), "IllegalArgumentException");
        t.due("a refused value", Twins.thrownBy(x, y -> y.sensor(0, 100001)), "IllegalArgumentException");
        t.due("corrected behind refused calls", x.corrected(0), 5);
        t.due("the drift behind refused calls", x.corrected(1), 8);
    }

    /** Between checks of neighbouring hours there is no hour; each has its own drift. */
    private static void checksOfNeighbours() {
        RoomClimate x = afterHours(4);
        for (int h = 0; h < 4; h++) {
            x.sensor(h, 100);
        }
        x.check(1, 107);
        x.check(2, 93);
        int[] due = {107, 107, 93, 93};
        for (int h = 0; h < 4; h++) {
            t.due("corrected(" + h + ")", x.corrected(h), due[h]);
        }
        x.check(0, 100);
        x.check(3, 100);
        int[] own = {100, 107, 93, 100};
        for (int h = 0; h < 4; h++) {
            t.due("corrected(" + h + ") with checks of all", x.corrected(h), own[h]);
        }
    }
}
