/** Promises 6 and 12: machine, on; and the machines' part of an hour. */
public final class MachineTest {
    private static final Tester t = new Tester();

    public static void main(String[] args) {
        machineRefuses();
        onRefuses();
        warmerByItsBand();
        coolerByItsBand();
        damperByItsBand();
        dryerByItsBand();
        dryerTakesNoMoreThanThereIs();
        toldAnewItIsOff();
        eachSeesWhatTheOneAheadDid();
        machinesComeLast();
        t.end();
    }

    /** A room of volume 1 whose air is all new each hour: degrees and damp are those outside. */
    private static RoomClimate openRoom() {
        RoomClimate x = new RoomClimate();
        x.room(1, 1000);
        return x;
    }

    private static void machineRefuses() {
        RoomClimate x = new RoomClimate();
        for (int kind : new int[] {-1, 4, Integer.MIN_VALUE, Integer.MAX_VALUE}) {
            t.refused("machine(" + kind + ", ..)", Tester.INDEX, x, () -> x.machine(kind, 0, 0, 0));
            t.refused("machine(" + kind + ", wrong)", Tester.INDEX, x, () -> x.machine(kind, 1, 0, -1));
        }
        int[][] wrong = {
            {1, 0, 5}, {-60001, 0, 5}, {0, 60001, 5}, {60001, 60001, 5}, {-60001, -60001, 5}, {0, 0, -1},
            {0, 0, 100001}, {Integer.MIN_VALUE, Integer.MAX_VALUE, 0}, {0, 0, Integer.MAX_VALUE}
        };
        for (int kind = 0; kind < 4; kind++) {
            for (int[] w : wrong) {
                int k = kind;
                String call = "machine(" + kind + ", " + w[0] + ", " + w[1] + ", " + w[2] + ")";
                t.refused(call, Tester.ARGUMENT, x, () -> x.machine(k, w[0], w[1], w[2]));
            }
        }
        x.machine(0, -60000, 60000, 100000);
        x.machine(3, 60000, 60000, 0);
    }

    private static void onRefuses() {
        RoomClimate x = new RoomClimate();
        for (int kind : new int[] {-1, 4, Integer.MIN_VALUE, Integer.MAX_VALUE}) {
            t.refused("on(" + kind + ")", Tester.INDEX, x, () -> x.on(kind));
        }
    }

    private static void warmerByItsBand() {
        RoomClimate x = openRoom();
        x.machine(0, 19000, 21000, 5);
        int[] degrees = {19000, 20000, 18999, 19000, 21000, 21001, 21000, 19000, 18999};
        boolean[] due = {false, false, true, true, true, false, false, false, true};
        int added = 0;
        for (int h = 0; h < due.length; h++) {
            x.hour(degrees[h], 0, 0);
            added += due[h] ? 5 : 0;
            t.due("warmer at " + degrees[h], x.on(0), due[h]);
            t.due("heat by it", x.book(4, 0), added);
            t.due("degrees with it", x.degrees(), degrees[h] + (due[h] ? 5 : 0));
        }
        t.due("water by it", x.book(4, 1), 0);
    }

    private static void coolerByItsBand() {
        RoomClimate x = openRoom();
        x.machine(1, 19000, 21000, 100000);
        int[] degrees = {21000, 20000, 21001, 21000, 19000, 18999, 19000, 21000, 21001};
        boolean[] due = {false, false, true, true, true, false, false, false, true};
        int taken = 0;
        for (int h = 0; h < due.length; h++) {
            x.hour(degrees[h], 0, 0);
            taken += due[h] ? 100000 : 0;
            t.due("cooler at " + degrees[h], x.on(1), due[h]);
            t.due("heat by it", x.book(4, 0), -taken);
            t.due("degrees with it", x.degrees(), degrees[h] - (due[h] ? 100000 : 0));
        }
        t.due("water by it", x.book(4, 1), 0);
    }

    private static void damperByItsBand() {
        RoomClimate x = openRoom();
        x.machine(2, 9000, 11000, 7);
        int[] damps = {9000, 10000, 8999, 9000, 11000, 11001, 11000, 9000, 8999};
        boolean[] due = {false, false, true, true, true, false, false, false, true};
        int added = 0;
        for (int h = 0; h < due.length; h++) {
            x.hour(0, damps[h], 0);
            added += due[h] ? 7 : 0;
            t.due("damper at " + damps[h], x.on(2), due[h]);
            t.due("water by it", x.book(4, 1), added);
            t.due("damp with it", x.damp(), damps[h] + (due[h] ? 7 : 0));
        }
        t.due("heat by it", x.book(4, 0), 0);
    }

    private static void dryerByItsBand() {
        RoomClimate x = openRoom();
        x.machine(3, 9000, 11000, 8);
        int[] damps = {11000, 10000, 11001, 11000, 9000, 8999, 9000, 11000, 11001};
        boolean[] due = {false, false, true, true, true, false, false, false, true};
        int taken = 0;
        for (int h = 0; h < due.length; h++) {
            x.hour(60000, damps[h], 0);
            taken += due[h] ? 8 : 0;
            t.due("dryer at " + damps[h], x.on(3), due[h]);
            t.due("water by it", x.book(4, 1), -taken);
            t.due("damp with it", x.damp(), damps[h] - (due[h] ? 8 : 0));
        }
        t.due("heat by it", x.book(4, 0), 0);
    }

    private static void dryerTakesNoMoreThanThereIs() {
        RoomClimate x = openRoom();
        x.machine(3, -60000, 100, 100000);
        x.hour(0, 60000, 0);
        t.due("damp", x.damp(), 0);
        t.due("water by the dryer", x.book(4, 1), -60000);
        x.hour(0, 0, 0);
        t.due("dryer in a dry room", x.on(3), true);
        t.due("water by the dryer", x.book(4, 1), -60000);
        t.due("water", x.book(-1, 1), 0);
    }

    private static void toldAnewItIsOff() {
        RoomClimate x = openRoom();
        x.machine(0, 20000, 20000, 5);
        x.hour(19000, 0, 0);
        t.due("warmer", x.on(0), true);
        x.machine(0, 18000, 20000, 6);
        t.due("warmer told anew", x.on(0), false);
        x.hour(19000, 0, 0);
        t.due("warmer within its new band", x.on(0), false);
        t.due("heat by it", x.book(4, 0), 5);
        x.hour(17999, 0, 0);
        t.due("heat by it", x.book(4, 0), 11);
    }

    private static void eachSeesWhatTheOneAheadDid() {
        RoomClimate x = openRoom();
        x.machine(0, 20000, 20000, 3000);
        x.machine(1, 0, 22000, 500);
        x.machine(2, 10000, 10000, 4000);
        x.machine(3, 0, 12000, 700);
        x.hour(19999, 9999, 0);
        t.due("warmer", x.on(0), true);
        t.due("cooler", x.on(1), true);
        t.due("damper", x.on(2), true);
        t.due("dryer", x.on(3), true);
        t.due("degrees", x.degrees(), 22499);
        t.due("damp", x.damp(), 13299);
        t.due("heat by machines", x.book(4, 0), 2500);
        t.due("water by machines", x.book(4, 1), 3300);
    }

    private static void machinesComeLast() {
        RoomClimate x = openRoom();
        x.machine(0, 20000, 20000, 3000);
        x.machine(2, 10000, 10000, 4000);
        x.hour(19999, 9999, 1);
        t.due("warmer behind a visitor", x.on(0), false);
        t.due("damper behind a visitor", x.on(2), false);
    }
}
