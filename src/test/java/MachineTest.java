/** Promises 6 and 12: machine, on; and the machines' part of an hour. */
public final class MachineTest {
    private static final Tester t = new Tester();

    public static void main(String[] args) {
        warmerByItsBand();
        coolerByItsBand();
        damperByItsBand();
        dryerByItsBand();
        dryerTakesNoMoreThanThereIs();
        toldAnewItIsOff();
        eachSeesWhatTheOneAheadDid();
        machinesComeLast();
        aBandOfOneNumber();
        theOutermostBands();
        dampHasNothingBelowNothing();
        ratesAtTheirEdges();
        dryerTakesJustAllThereIs();
        aRefusedMachineStaysAsItIs();
        t.end();
    }

    /** A room of volume 1 whose air is all new each hour: degrees and damp are those outside. */
    private static RoomClimate openRoom() {
        RoomClimate x = new RoomClimate();
        x.room(1, 1000);
        return x;
    }

    private static void warmerByItsBand() {
        RoomClimate x = openRoom();
        x.machine(0, 19000, 21000, 5);
        int[] degrees = {19000, 20000, 18999, 19000, 21000, 21001, 21000, 19000, 18999};
        boolean[] due = {false, false, true, true, true, false, false, false, true};
        int added = 0;
        for (int h = 0; h < due.length; h++) {
            x.hour(degrees[h], 0, 0);
            added += due[h] ? 5 : 0;
            t.due("warmer at " + degrees[h], x.on(0), due[h]);
            t.due("heat by it", x.book(4, 0), added);
            t.due("degrees with it", x.degrees(), degrees[h] + (due[h] ? 5 : 0));
        }
        t.due("water by it", x.book(4, 1), 0);
    }

    private static void coolerByItsBand() {
        RoomClimate x = openRoom();
        x.machine(1, 19000, 21000, 100000);
        int[] degrees = {21000, 20000, 21001, 21000, 19000, 18999, 19000, 21000, 21001};
        boolean[] due = {false, false, true, true, true, false, false, false, true};
        int taken = 0;
        for (int h = 0; h < due.length; h++) {
            x.hour(degrees[h], 0, 0);
            taken += due[h] ? 100000 : 0;
            t.due("cooler at " + degrees[h], x.on(1), due[h]);
            t.due("heat by it", x.book(4, 0), -taken);
            t.due("degrees with it", x.degrees(), degrees[h] - (due[h] ? 100000 : 0));
        }
        t.due("water by it", x.book(4, 1), 0);
    }

    private static void damperByItsBand() {
        RoomClimate x = openRoom();
        x.machine(2, 9000, 11000, 7);
        int[] damps = {9000, 10000, 8999, 9000, 11000, 11001, 11000, 9000, 8999};
        boolean[] due = {false, false, true, true, true, false, false, false, true};
        int added = 0;
        for (int h = 0; h < due.length; h++) {
            x.hour(0, damps[h], 0);
            added += due[h] ? 7 : 0;
            t.due("damper at " + damps[h], x.on(2), due[h]);
            t.due("water by it", x.book(4, 1), added);
            t.due("damp with it", x.damp(), damps[h] + (due[h] ? 7 : 0));
        }
        t.due("heat by it", x.book(4, 0), 0);
    }

    private static void dryerByItsBand() {
        RoomClimate x = openRoom();
        x.machine(3, 9000, 11000, 8);
        int[] damps = {11000, 10000, 11001, 11000, 9000, 8999, 9000, 11000, 11001};
        boolean[] due = {false, false, true, true, true, false, false, false, true};
        int taken = 0;
        for (int h = 0; h < due.length; h++) {
            x.hour(60000, damps[h], 0);
            taken += due[h] ? 8 : 0;
            t.due("dryer at " + damps[h], x.on(3), due[h]);
            t.due("water by it", x.book(4, 1), -taken);
            t.due("damp with it", x.damp(), damps[h] - (due[h] ? 8 : 0));
        }
        t.due("heat by it", x.book(4, 0), 0);
    }

    private static void dryerTakesNoMoreThanThereIs() {
        RoomClimate x = openRoom();
        x.machine(3, -60000, 100, 100000);
        x.hour(0, 60000, 0);
        t.due("damp", x.damp(), 0);
        t.due("water by the dryer", x.book(4, 1), -60000);
        x.hour(0, 0, 0);
        t.due("dryer in a dry room", x.on(3), true);
        t.due("water by the dryer", x.book(4, 1), -60000);
        t.due("water", x.book(-1, 1), 0);
    }

    private static void toldAnewItIsOff() {
        RoomClimate x = openRoom();
        x.machine(0, 20000, 20000, 5);
        x.hour(19000, 0, 0);
        t.due("warmer", x.on(0), true);
        x.machine(0, 18000, 20000, 6);
        t.due("warmer told anew", x.on(0), false);
        x.hour(19000, 0, 0);
        t.due("warmer within its new band", x.on(0), false);
        t.due("heat by it", x.book(4, 0), 5);
        x.hour(17999, 0, 0);
        t.due("heat by it", x.book(4, 0), 11);
    }

    private static void eachSeesWhatTheOneAheadDid() {
        RoomClimate x = openRoom();
        x.machine(0, 20000, 20000, 3000);
        x.machine(1, 0, 22000, 500);
        x.machine(2, 10000, 10000, 4000);
        x.machine(3, 0, 12000, 700);
        x.hour(19999, 9999, 0);
        t.due("warmer", x.on(0), true);
        t.due("cooler", x.on(1), true);
        t.due("damper", x.on(2), true);
        t.due("dryer", x.on(3), true);
        t.due("degrees", x.degrees(), 22499);
        t.due("damp", x.damp(), 13299);
        t.due("heat by machines", x.book(4, 0), 2500);
        t.due("water by machines", x.book(4, 1), 3300);
    }

    private static void machinesComeLast() {
        RoomClimate x = openRoom();
        x.machine(0, 20000, 20000, 3000);
        x.machine(2, 10000, 10000, 4000);
        x.hour(19999, 9999, 1);
        t.due("warmer behind a visitor", x.on(0), false);
        t.due("damper behind a visitor", x.on(2), false);
    }

    /** low = high: at just this number a machine stays as it is, on or off. */
    private static void aBandOfOneNumber() {
        int[] readings = {5000, 4999, 5000, 5001, 5000};
        boolean[] givers = {false, true, true, false, false};
        boolean[] takers = {false, false, false, true, true};
        for (int kind = 0; kind < 4; kind++) {
            RoomClimate x = openRoom();
            x.machine(kind, 5000, 5000, 1);
            for (int h = 0; h < readings.length; h++) {
                x.hour(readings[h], readings[h], 0);
                boolean due = (kind % 2 == 0 ? givers : takers)[h];
                t.due("machine " + kind + " at " + readings[h] + ", hour " + h, x.on(kind), due);
            }
        }
    }

    /** A room as cold, or as warm and damp, as 60 millions by a volume tell, with no air. */
    private static RoomClimate extremeRoom(int degrees, int volume) {
        RoomClimate x = new RoomClimate();
        x.room(1000, 1000);
        x.hour(degrees, Math.max(degrees, 0), 0);
        x.room(volume, 0);
        return x;
    }

    private static void theOutermostBands() {
        int[] volumes = {1000, 999};
        for (int volume : volumes) {
            boolean beyond = volume == 999;
            RoomClimate cold = extremeRoom(-60000, volume);
            t.due("cold", cold.degrees(), beyond ? -60061 : -60000);
            cold.machine(0, -60000, 60000, 1);
            cold.machine(1, -60000, -60000, 1);
            cold.hour(0, 0, 0);
            t.due("warmer with low -60000 at " + cold.degrees(), cold.on(0), beyond);
            t.due("cooler with high -60000 at " + cold.degrees(), cold.on(1), false);
            RoomClimate warm = extremeRoom(60000, volume);
            t.due("warm", warm.degrees(), beyond ? 60060 : 60000);
            t.due("damp", warm.damp(), beyond ? 60060 : 60000);
            warm.machine(0, 60000, 60000, 1);
            warm.machine(1, -60000, 60000, 1);
            warm.machine(2, 60000, 60000, 1);
            warm.machine(3, -60000, 60000, 1);
            warm.hour(0, 0, 0);
            t.due("warmer with low 60000", warm.on(0), false);
            t.due("cooler with high 60000 at " + warm.degrees(), warm.on(1), beyond);
            t.due("damper with low 60000", warm.on(2), false);
            t.due("dryer with high 60000 at " + warm.damp(), warm.on(3), beyond);
        }
    }

    private static void dampHasNothingBelowNothing() {
        int[][] lowsAndDues = {{-60000, 0}, {-1, 0}, {0, 0}, {1, 1}};
        for (int[] due : lowsAndDues) {
            RoomClimate x = openRoom();
            x.machine(2, due[0], 60000, 50);
            x.hour(0, 0, 0);
            t.due("damper with low " + due[0] + " at damp 0", x.on(2), due[1] == 1);
            t.due("water by it", x.book(4, 1), 50 * due[1]);
        }
        int[][] highsAndDues = {{-60000, 1}, {-1, 1}, {0, 0}, {1, 0}};
        for (int[] due : highsAndDues) {
            RoomClimate x = openRoom();
            x.machine(3, -60000, due[0], 50);
            x.hour(0, 0, 0);
            t.due("dryer with high " + due[0] + " at damp 0", x.on(3), due[1] == 1);
            t.due("water by it", x.book(4, 1), 0);
        }
    }

    private static void ratesAtTheirEdges() {
        for (int rate : new int[] {0, 1, 99999, 100000}) {
            for (int kind = 0; kind < 4; kind++) {
                RoomClimate x = new RoomClimate();
                boolean gives = kind % 2 == 0;
                x.machine(kind, gives ? 60000 : -60000, gives ? 60000 : -60000, rate);
                x.hour(20000, 10000, 0);
                t.due("machine " + kind + " with rate " + rate, x.on(kind), true);
                t.due("heat by it", x.book(4, 0), kind == 0 ? rate : kind == 1 ? -rate : 0);
                t.due("water by it", x.book(4, 1), kind == 2 ? rate : kind == 3 ? -rate : 0);
            }
        }
    }

    /** Its rate is one less than the room's water, all of it, and one more. */
    private static void dryerTakesJustAllThereIs() {
        int[][] dues = {{499, 1}, {500, 0}, {501, 0}};
        for (int[] due : dues) {
            RoomClimate x = openRoom();
            x.machine(3, 0, 0, due[0]);
            x.hour(0, 500, 0);
            t.due("water that a rate of " + due[0] + " leaves of 500", x.book(-1, 1), due[1]);
            t.due("water by the dryer", x.book(4, 1), due[1] - 500);
        }
    }

    private static void aRefusedMachineStaysAsItIs() {
        RoomClimate x = openRoom();
        x.machine(0, 19000, 21000, 5);
        x.hour(18999, 0, 0);
        t.due("a wrong band", Twins.thrownBy(x, y -> y.machine(0, 1, 0, 7)), "IllegalArgumentException");
        t.due("a wrong rate", Twins.thrownBy(x, y -> y.machine(0, 0, 1, 100001)), "IllegalArgumentException");
        t.due("it is still on", x.on(0), true);
        x.hour(21000, 0, 0);
        t.due("its band and rate are as they were", x.book(4, 0), 10);
        x.hour(21001, 0, 0);
        t.due("its high is as it was", x.on(0), false);
    }
}
