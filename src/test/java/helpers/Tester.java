/** Counts and prints the answers that are not as due. */
final class Tester {
    interface Call {
        void make();
    }

    static final Class<IndexOutOfBoundsException> INDEX = IndexOutOfBoundsException.class;
    static final Class<IllegalStateException> STATE = IllegalStateException.class;
    static final Class<IllegalArgumentException> ARGUMENT = IllegalArgumentException.class;

    private int asked = 0;
    private int wrong = 0;

    void due(String what, Object got, Object want) {
        asked++;
        String gotText = String.valueOf(got);
        String wantText = String.valueOf(want);
        if (!gotText.equals(wantText)) {
            wrong++;
            System.out.println(what + " answered " + gotText + ", due is " + wantText);
        }
    }

    /** The call must throw just this class, and leave all that can be seen of the room as it was. */
    void refused(String what, Class<?> want, RoomClimate room, Call call) {
        String before = seen(room);
        due(what, thrownBy(call), want.getSimpleName());
        due("what is seen behind " + what, seen(room), before);
    }

    void end() {
        System.out.println(asked + " answers asked for, " + wrong + " not as due");
        if (wrong != 0 || asked == 0) {
            System.exit(1);
        }
    }

    /** The name of what a call throws; a subclass, as the machine itself throws, has another name. */
    static String thrownBy(Call call) {
        try {
            call.make();
            return "nothing";
        } catch (RuntimeException e) {
            return e.getClass().getSimpleName();
        }
    }

    /** All that the face tells of a room, as one text. */
    static String seen(RoomClimate room) {
        StringBuilder text = new StringBuilder();
        text.append(room.degrees()).append(' ').append(room.damp()).append(' ').append(room.held());
        for (int kind = -1; kind < 5; kind++) {
            text.append(' ').append(room.book(kind, 0)).append(' ').append(room.book(kind, 1));
        }
        for (int k = 0; k < room.count(1); k++) {
            text.append(" l").append(room.layer(k)).append(room.dew(k));
        }
        for (int kind = 0; kind < 4; kind++) {
            text.append(' ').append(room.on(kind)).append(room.points(kind));
        }
        for (int what = 0; what < 5; what++) {
            text.append(" c").append(room.count(what));
        }
        for (int rule = 0; rule < room.count(3); rule++) {
            for (int k = -1; k < room.alarm(rule, -1); k++) {
                text.append(" a").append(room.alarm(rule, k));
            }
        }
        for (int h = 0; h < room.count(0); h++) {
            text.append(" v").append(room.corrected(h)).append(',').append(room.silent(h));
        }
        return text.append(" p").append(room.plan(6, -5000, 20000)).toString();
    }
}
