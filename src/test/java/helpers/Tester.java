/** Counts and prints the answers that are not as due. */
final class Tester {
    static final Class<IndexOutOfBoundsException> INDEX = IndexOutOfBoundsException.class;
    static final Class<IllegalStateException> STATE = IllegalStateException.class;
    static final Class<IllegalArgumentException> ARGUMENT = IllegalArgumentException.class;

    private int asked = 0;
    private int wrong = 0;

    void due(String what, Object got, Object want) {
        asked++;
        String gotText = String.valueOf(got);
        String wantText = String.valueOf(want);
        if (!gotText.equals(wantText)) {
            wrong++;
            System.out.println(what + " answered " + gotText + ", due is " + wantText);
        }
    }

    void end() {
        System.out.println(asked + " answers asked for, " + wrong + " not as due");
        if (wrong != 0 || asked == 0) {
            System.exit(1);
        }
    }
}
