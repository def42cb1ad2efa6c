/** Promise 7: what a FLOAT is. */
public final class Promise07IsTest {
    public static void main(String[] args) {
        Check check = new Check();
        for (int e = 2; e <= 5; e++) {
            for (int s = 2; s <= 11; s++) {
                asTheReference(check, new Reference(e, s));
            }
        }
        writtenOut(check);
        wrongOnes(check);
        check.end();
    }

    private static void asTheReference(Check check, Reference reference) {
        Fresh fresh = new Fresh(reference.e, reference.s);
        double leastNormal = Math.pow(2, 2 - (1 << (reference.e - 1)));
        for (int x = 0; x < reference.size; x++) {
            double magnitude = Math.abs(reference.number(x));
            boolean nan = Double.isNaN(magnitude);
            boolean infinite = Double.isInfinite(magnitude);
            boolean[] due = {magnitude >= leastNormal && !infinite, magnitude > 0 && magnitude < leastNormal,
                magnitude == 0, infinite, nan, !nan && x >= reference.size / 2, !nan && x < reference.size / 2};
            for (int kind = 0; kind < due.length; kind++) {
                check.due(due[kind], fresh.next().is(kind, x), "is", reference.e, reference.s, kind, x);
            }
        }
    }

    /** In 5, 11: x, and the kinds that it is. */
    private static void writtenOut(Check check) {
        int[][] rows = {{0, 2, 6}, {0x8000, 2, 5}, {1, 1, 6}, {0x83ff, 1, 5}, {0x400, 0, 6}, {0x7bff, 0, 6},
            {0xbc00, 0, 5}, {0x7c00, 3, 6}, {0xfc00, 3, 5}, {0x7c01, 4, 4}, {0xffff, 4, 4}};
        FloatCircuits object = new FloatCircuits();
        for (int[] row : rows) {
            for (int kind = 0; kind <= 6; kind++) {
                check.due(kind == row[1] || kind == row[2], object.is(kind, row[0]), "is", kind, row[0]);
            }
        }
    }

    private static void wrongOnes(Check check) {
        int[][] wrong = {{-1, 0}, {7, 0}, {0, -1}, {0, 128}, {4, 128}, {6, Integer.MIN_VALUE},
            {5, Integer.MAX_VALUE}, {Integer.MAX_VALUE, 0}, {Integer.MIN_VALUE, 0}};
        FloatCircuits object = new FloatCircuits();
        object.format(3, 4);
        for (int[] row : wrong) {
            check.refused("is " + java.util.Arrays.toString(row), () -> object.is(row[0], row[1]));
        }
        check.due(true, object.is(4, 127), "is NaN in 3, 4 after refused calls");
    }
}
