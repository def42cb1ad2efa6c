/** Promise 10: whole numbers of FLOATs. */
public final class Promise10ToWholeTest {
    public static void main(String[] args) {
        Check check = new Check();
        for (int e = 2; e <= 5; e++) {
            for (int s = 2; s <= 11; s++) {
                asTheReference(check, new Reference(e, s));
            }
        }
        writtenOut(check);
        wrongOnes(check);
        check.end();
    }

    private static void asTheReference(Check check, Reference reference) {
        Fresh fresh = new Fresh(reference.e, reference.s);
        for (int x : reference.samples(1024)) {
            for (int mode = 0; mode < Reference.MODES; mode++) {
                double whole = Reference.whole(mode, reference.number(x));
                for (int m = 1; m <= 32; m++) {
                    check.due(due(whole, m, false), fresh.next().toWhole(mode, x, m, false),
                        "toWhole without sign", reference.e, reference.s, mode, x, m);
                    check.due(due(whole, m, true), fresh.next().toWhole(mode, x, m, true),
                        "toWhole with sign", reference.e, reference.s, mode, x, m);
                }
            }
        }
    }

    private static int due(double whole, int m, boolean signed) {
        double range = Math.pow(2, m);
        double low = signed ? -range / 2 : 0;
        boolean within = whole >= low && whole < low + range;
        return within ? (int) (long) (whole < 0 ? whole + range : whole) : 0;
    }

    /** In 5, 11: mode, x, m, signed, answer. */
    private static void writtenOut(Check check) {
        int[][] rows = {{0, 0x3800, 8, 1, 0}, {1, 0x3800, 8, 1, 1}, {0, 0x3e00, 8, 1, 2}, {2, 0x0001, 1, 0, 1},
            {2, 0x0001, 1, 1, 0}, {3, 0x8001, 1, 1, 1}, {3, 0x8001, 1, 0, 0}, {0, 0xbc00, 32, 1, -1},
            {0, 0xbc00, 31, 1, 0x7fffffff}, {0, 0xd800, 8, 1, 128}, {0, 0xd808, 8, 1, 0}, {0, 0xd802, 8, 1, 128},
            {0, 0x5800, 8, 1, 0}, {0, 0x5800, 8, 0, 128}, {0, 0x5bf8, 8, 0, 255}, {0, 0x5bfc, 8, 0, 0},
            {4, 0x5bff, 8, 0, 255}, {4, 0xbbff, 8, 0, 0}, {0, 0x7c00, 32, 0, 0}, {0, 0xfc00, 32, 1, 0},
            {0, 0x7e00, 32, 0, 0}, {0, 0x8000, 8, 0, 0}, {0, 0x7bff, 32, 0, 65504}, {0, 0xfbff, 32, 1, -65504},
            {0, 0xfbff, 17, 1, 65568}, {0, 0xfbff, 16, 1, 0}, {0, 0xfbff, 32, 0, 0}};
        FloatCircuits object = new FloatCircuits();
        for (int[] row : rows) {
            check.due(row[4], object.toWhole(row[0], row[1], row[2], row[3] == 1), "toWhole", row);
        }
        // 3.5 rounds to 4, which is within 3 bits though no FLOAT of 2, 3 is 4.
        object.format(2, 3);
        check.due(4, object.toWhole(0, 11, 3, false), "3.5 of 2, 3 in 3 bits");
    }

    private static void wrongOnes(Check check) {
        int[][] wrong = {{-1, 0, 8}, {5, 0, 8}, {0, -1, 8}, {0, 128, 8}, {0, 0, 0}, {0, 0, -1}, {0, 0, 33},
            {0, 0, 64}, {5, 127, 8}, {0, 127, 33}, {Integer.MAX_VALUE, 0, 8}, {0, Integer.MIN_VALUE, 8},
            {0, 0, Integer.MAX_VALUE}};
        FloatCircuits object = new FloatCircuits();
        object.format(3, 4);
        for (int[] row : wrong) {
            check.refused("toWhole " + java.util.Arrays.toString(row),
                () -> object.toWhole(row[0], row[1], row[2], true));
            check.refused("toWhole " + java.util.Arrays.toString(row),
                () -> object.toWhole(row[0], row[1], row[2], false));
        }
        check.due(1, object.toWhole(0, 24, 32, true), "1 of 3, 4 after refused calls");
    }
}
