/** What is thrown: every number of every call just within its range, and just out of it. */
public final class EdgeThrownTest {
    private static final String[] CALLS =
        {"format", "reckon", "change", "least", "compare", "is", "from", "ofWhole", "toWhole"};
    private static final int[] BOOLEAN = {0, 1};

    public static void main(String[] args) {
        Check check = new Check();
        Reference[] formats = Reference.all();
        inRange(check, formats);
        outOfRange(check, formats);
        ofThePresentFormat(check);
        severalAtOnce(check);
        changesNothing(check, formats);
        check.end();
    }

    /** The least and the greatest number that each place of a call takes; x of from is one of 2, 2. */
    private static int[][] ranges(String call, Reference format) {
        int[] kind = {0, 3};
        int[] mode = {0, 4};
        int[] x = {0, format.size - 1};
        int[] e = {2, 5};
        int[] s = {2, 11};
        int[] bits = {1, 32};
        switch (call) {
            case "format":
                return new int[][] {e, s};
            case "reckon":
                return new int[][] {kind, mode, x, x};
            case "change":
                return new int[][] {kind, mode, x};
            case "least":
                return new int[][] {x, x, BOOLEAN};
            case "compare":
                return new int[][] {kind, x, x};
            case "is":
                return new int[][] {{0, 6}, x};
            case "from":
                return new int[][] {e, s, mode, {0, 15}};
            case "ofWhole":
                return new int[][] {mode, {Integer.MIN_VALUE, Integer.MAX_VALUE}, bits, BOOLEAN};
            default:
                return new int[][] {mode, x, bits, BOOLEAN};
        }
    }

    /** The least numbers that a call takes, but for one place. */
    private static int[] with(int[][] ranges, int place, int number) {
        int[] arguments = new int[ranges.length];
        for (int i = 0; i < ranges.length; i++) {
            arguments[i] = i == place ? number : ranges[i][0];
        }
        return arguments;
    }

    private static int[] outside(int[] range) {
        boolean everyNumber = range == BOOLEAN || range[0] == Integer.MIN_VALUE;
        return everyNumber ? new int[0]
            : new int[] {range[0] - 1, range[1] + 1, Integer.MIN_VALUE, Integer.MAX_VALUE};
    }

    private static void inRange(Check check, Reference[] formats) {
        check.sentence("a number in range is taken");
        for (Reference format : formats) {
            for (String call : CALLS) {
                int[][] ranges = ranges(call, format);
                for (int place = 0; place < ranges.length; place++) {
                    new Run(check, format).takes(call, with(ranges, place, ranges[place][0]));
                    new Run(check, format).takes(call, with(ranges, place, ranges[place][1]));
                }
            }
        }
    }

    private static void outOfRange(Check check, Reference[] formats) {
        check.sentence("What is thrown: IllegalArgumentException: a number out of range");
        for (Reference format : formats) {
            for (String call : CALLS) {
                int[][] ranges = ranges(call, format);
                Run run = new Run(check, format);
                for (int place = 0; place < ranges.length; place++) {
                    for (int number : outside(ranges[place])) {
                        run.refuses(call, with(ranges, place, number));
                    }
                }
            }
        }
    }

    private static void ofThePresentFormat(Check check) {
        check.sentence("a FLOAT is of the present FORMAT, if nothing else is said");
        Run run = new Run(check, 3, 4);
        run.refuses("is", 0, 128);
        run.answers(8, "format", 3, 5);
        run.answers(0, "is", 0, 128);
        run.refuses("is", 0, 256);
        run.answers(7, "format", 4, 3);
        run.refuses("change", 2, 0, 255);
        run.answers(62, "change", 2, 0, 127);
        // Something else is said in from: x is of e, s.
        run.takes("from", 5, 11, 0, 65535);
        run.refuses("from", 2, 2, 0, 127);
    }

    private static void severalAtOnce(Check check) {
        check.sentence("the same, where several numbers are out of range");
        Run run = new Run(check);
        for (int number : new int[] {-1, 65536, Integer.MIN_VALUE, Integer.MAX_VALUE}) {
            for (String call : CALLS) {
                run.refuses(call, number, number, number, number);
            }
        }
    }

    private static void changesNothing(Check check, Reference[] formats) {
        check.sentence("A call that throws changes nothing");
        for (Reference format : formats) {
            for (String call : CALLS) {
                int[][] ranges = ranges(call, format);
                Run run = new Run(check, format);
                for (int place = 0; place < ranges.length; place++) {
                    for (int number : outside(ranges[place])) {
                        run.refuses(call, with(ranges, place, number));
                        run.isIn(format);
                    }
                }
            }
        }
        Run unset = new Run(check);
        unset.refuses("format", 3, 12);
        unset.refuses("format", 6, 4);
        unset.refuses("from", 3, 4, 5, 0);
        unset.refuses("from", 3, 4, 0, 128);
        unset.isIn(new Reference(5, 11));
    }
}
