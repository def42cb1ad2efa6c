/** Counts the answers that are not the ones due, and prints the first of them. */
final class Check {
    private static final int MOST_PRINTED = 40;

    private int asked = 0;
    private int wrong = 0;

    /** A call of the face, to be looked at for what it throws. */
    interface Call {
        void run();
    }

    void due(long want, long got, String call, int... arguments) {
        asked++;
        if (got != want) {
            tell(call, arguments, "answered " + got + ", due is " + want);
        }
    }

    void due(boolean want, boolean got, String call, int... arguments) {
        due(want ? 1 : 0, got ? 1 : 0, call, arguments);
    }

    void refused(String call, Call run) {
        asked++;
        try {
            run.run();
            tell(call, new int[0], "threw nothing");
        } catch (RuntimeException thrown) {
            if (thrown.getClass() != IllegalArgumentException.class) {
                tell(call, new int[0], "threw " + thrown);
            }
        }
    }

    void end() {
        System.out.println(asked + " answers, " + wrong + " of them wrong");
        if (wrong != 0 || asked == 0) {
            System.exit(1);
        }
    }

    private void tell(String call, int[] arguments, String what) {
        wrong++;
        if (wrong <= MOST_PRINTED) {
            System.out.println(call + java.util.Arrays.toString(arguments) + " " + what);
        }
    }
}
