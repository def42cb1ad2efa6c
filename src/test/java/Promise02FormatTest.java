/** Promise 2: format sets the FORMAT and answers the bits of a FLOAT. */
public final class Promise02FormatTest {
    public static void main(String[] args) {
        Check check = new Check();
        FloatCircuits object = new FloatCircuits();
        for (int e = 2; e <= 5; e++) {
            for (int s = 2; s <= 11; s++) {
                check.due(e + s, object.format(e, s), "format", e, s);
                theFormatCounts(check, object, e, s);
            }
        }
        wrongOnesChangeNothing(check);
        check.end();
    }

    private static void theFormatCounts(Check check, FloatCircuits object, int e, int s) {
        Reference reference = new Reference(e, s);
        check.due(reference.nan, object.change(2, 0, reference.size - 1), "NaN in", e, s);
        check.due(reference.round(0, 1), object.ofWhole(0, 1, 32, true), "1 in", e, s);
        check.refused("a FLOAT too great", () -> object.is(0, reference.size));
    }

    private static void wrongOnesChangeNothing(Check check) {
        int[][] wrong = {{1, 4}, {6, 4}, {3, 1}, {3, 12}, {0, 0}, {-3, -4}, {5, -11}, {35, 4}, {3, 36},
            {Integer.MIN_VALUE, 4}, {Integer.MAX_VALUE, 4}, {3, Integer.MIN_VALUE}, {3, Integer.MAX_VALUE}};
        FloatCircuits object = new FloatCircuits();
        object.format(3, 4);
        for (int[] pair : wrong) {
            check.refused("format " + pair[0] + ", " + pair[1], () -> object.format(pair[0], pair[1]));
            check.due(24, object.ofWhole(0, 1, 32, true), "1 after a refused format", pair);
            check.refused("a FLOAT of 8 bits", () -> object.is(0, 128));
        }
    }
}
