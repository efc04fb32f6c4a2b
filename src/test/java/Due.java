/** Counts the answers that are not as due; ends a test with exit code 1 if there was one. */
final class Due {
    // One fault in a long run can make thousands of answers wrong; the first ones tell it.
    private static final int MOST_TOLD = 30;
    private int asked;
    private int wrong;

    void is(String call, long got, long want) {
        asked++;
        if (got != want) {
            wrong++;
            if (wrong <= MOST_TOLD) {
                System.out.println(call + " answered " + got + ", due is " + want);
            }
        }
    }

    void is(String call, boolean got, boolean want) {
        is(call, got ? 1 : 0, want ? 1 : 0);
    }

    void end(String name) {
        System.out.println(name + ": " + asked + " answers, " + wrong + " not as due");
        if (wrong != 0 || asked == 0) {
            System.exit(1);
        }
    }
}
