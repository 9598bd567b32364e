/**
 * Two rooms with the same past. One of them gets a call that must be refused; from there on both must
 * answer alike, now and in what is done to them later: so the call changed nothing, seen or unseen.
 * No room is asked more than the 512 calls that the document speaks of.
 */
final class Twins {
    interface Deed {
        void on(RoomClimate x);
    }

    interface Answer {
        Object of(RoomClimate x);
    }

    static final int MOST_HOURS = 300;
    private static final int[][] WEATHERS = {
        {-60000, 0, 0}, {60000, 60000, 99}, {19000, 9000, 1}, {21900, 9900, 0}, {18100, 13000, 0}, {0, 30000, 7}
    };

    private Twins() { }

    static RoomClimate grown(Deed past) {
        RoomClimate x = new RoomClimate();
        past.on(x);
        return x;
    }

    /** The call throws nothing. */
    static void taken(Tester t, String what, Deed past, Deed call) {
        t.due(what, thrownBy(grown(past), call), "nothing");
    }

    /** The call throws just this class, and changes nothing. */
    static void refused(Tester t, String what, Class<?> want, Deed past, Deed call) {
        RoomClimate asked = grown(past);
        t.due(what, thrownBy(asked, call), want.getSimpleName());
        t.due("what comes behind " + what, future(asked), future(grown(past)));
    }

    /** The call throws nothing, and changes nothing. */
    static void leavesNoTrace(Tester t, String what, Deed past, Deed call) {
        RoomClimate asked = grown(past);
        t.due(what, thrownBy(asked, call), "nothing");
        t.due("what comes behind " + what, future(asked), future(grown(past)));
    }

    /** The name of what a call throws; a subclass, as the machine itself throws, has another name. */
    static String thrownBy(RoomClimate x, Deed call) {
        try {
            call.on(x);
            return "nothing";
        } catch (RuntimeException e) {
            return e.getClass().getSimpleName();
        }
    }

    static String answerOf(RoomClimate x, Answer call) {
        try {
            return String.valueOf(call.of(x));
        } catch (RuntimeException e) {
            return "throws " + e.getClass().getSimpleName();
        }
    }

    /** What the room tells now, and what it tells while later calls use all that it keeps. */
    static String future(RoomClimate x) {
        StringBuilder text = new StringBuilder(seen(x));
        int first = x.count(0);
        for (int k = 0; k < WEATHERS.length && first < MOST_HOURS; k++) {
            int[] w = WEATHERS[k];
            text.append(" h").append(answerOf(x, y -> y.hour(w[0], w[1], w[2])));
            text.append(' ').append(x.book(-1, 0)).append(' ').append(x.book(-1, 1)).append(' ').append(x.held());
        }
        text.append(" kg").append(x.goods(500));
        text.append(" wall").append(answerOf(x, y -> y.wall(30, 7)));
        text.append(" row").append(answerOf(x, y -> y.row(60000, 900)));
        text.append(" rule").append(answerOf(x, y -> y.rule(0, -60000, 1)));
        for (int kind = 0; kind < 4; kind++) {
            int k = kind;
            text.append(" risk").append(answerOf(x, y -> y.risk(k, 60000, 3)));
        }
        text.append(thrownBy(x, y -> y.check(0, 6)));
        return text.append(seen(x)).toString();
    }

    /** All that the face tells of a room, as one text; of many hours and alarms the first and the last. */
    static String seen(RoomClimate x) {
        StringBuilder text = new StringBuilder();
        text.append(x.degrees()).append(' ').append(x.damp()).append(' ').append(x.held());
        for (int kind = -1; kind < 5; kind++) {
            text.append(' ').append(x.book(kind, 0)).append(' ').append(x.book(kind, 1));
        }
        int layers = x.count(1);
        for (int k = 0; k < layers; k++) {
            text.append(" l").append(x.layer(k)).append(x.dew(k));
        }
        for (int kind = 0; kind < 4; kind++) {
            text.append(' ').append(x.on(kind)).append(x.points(kind));
        }
        int rules = x.count(3);
        for (int rule = 0; rule < rules; rule++) {
            int told = x.alarm(rule, -1);
            text.append(" a").append(told).append(',').append(x.alarm(rule, 0)).append(',');
            text.append(x.alarm(rule, told));
            text.append(',').append(x.alarm(rule, Math.max(told - 1, 0)));
        }
        int hours = x.count(0);
        for (int h = 0; h < hours; h++) {
            if (h < 6 || h >= hours - 2) {
                text.append(" v").append(x.corrected(h)).append(',').append(x.silent(h));
            }
        }
        text.append(" c").append(hours).append(layers).append(x.count(2)).append(rules).append(x.count(4));
        return text.append(" p").append(x.plan(6, -5000, 20000)).toString();
    }

    /** A past in which all of the face was used, and no table is full; all machines are on. */
    static void lived(RoomClimate x) {
        x.room(90, 150);
        x.wall(40, 30);
        x.wall(10, 300);
        x.goods(200);
        x.row(5000, 100);
        x.row(12000, 900);
        x.machine(0, 21500, 26000, 7000);
        x.machine(1, 17000, 21000, 6000);
        x.machine(2, 11000, 20000, 5000);
        x.machine(3, 1000, 9000, 4000);
        for (int kind = 0; kind < 4; kind++) {
            x.risk(kind, 500, 2);
            x.risk(kind, 12000, 5 + kind);
        }
        x.rule(0, 19000, 2);
        x.rule(3, 15000, 3);
        x.hour(45000, 10000, 2);
        x.hour(5000, 9500, 0);
        x.hour(20000, 9000, 9);
        x.hour(18000, 9500, 1);
        x.hour(19000, 12000, 0);
        x.sensor(0, 19900);
        x.sensor(2, 20100);
        x.sensor(4, 20300);
        x.check(0, 20000);
        x.check(4, 20050);
    }

    static void nothing(RoomClimate x) { }
}
