/** Promise 9: FLOATs of whole numbers. */
public final class Promise09OfWholeTest {
    private static final int[] NUMBERS = {0, 1, 2, 3, 4, 5, 6, 7, 11, 13, 100, 127, 128, 255, 256, 2047, 2048,
        2049, 2050, 2051, 4097, 4098, 32767, 32768, 65503, 65504, 65505, 65519, 65520, 65521, 65535, 65536,
        0x12345678, 0x5a5a5a5a, Integer.MAX_VALUE, Integer.MIN_VALUE, Integer.MIN_VALUE + 1};

    public static void main(String[] args) {
        Check check = new Check();
        for (int e = 2; e <= 5; e++) {
            for (int s = 2; s <= 11; s++) {
                asTheReference(check, new Reference(e, s));
            }
        }
        writtenOut(check);
        wrongOnes(check);
        check.end();
    }

    private static void asTheReference(Check check, Reference reference) {
        Fresh fresh = new Fresh(reference.e, reference.s);
        for (int number : NUMBERS) {
            for (int w = 1; w <= 32; w++) {
                for (int mode = 0; mode < Reference.MODES; mode++) {
                    for (int v = number, twice = 0; twice < 2; v = -v, twice++) {
                        check.due(reference.round(mode, taken(v, w, false)),
                            fresh.next().ofWhole(mode, v, w, false), "ofWhole without sign", mode, v, w);
                        check.due(reference.round(mode, taken(v, w, true)),
                            fresh.next().ofWhole(mode, v, w, true), "ofWhole with sign", mode, v, w);
                    }
                }
            }
        }
    }

    private static double taken(int v, int w, boolean signed) {
        long range = 1L << w;
        long low = Math.floorMod((long) v, range);
        return signed && low >= range / 2 ? low - range : low;
    }

    /** In 5, 11: mode, v, w, signed, answer. */
    private static void writtenOut(Check check) {
        int[][] rows = {{0, 1, 1, 1, 0xbc00}, {0, 1, 1, 0, 0x3c00}, {0, 2, 1, 1, 0}, {3, 0, 32, 1, 0},
            {3, 256, 8, 0, 0}, {0, -1, 32, 1, 0xbc00}, {0, -1, 4, 0, 0x4b80}, {0, 2049, 32, 1, 0x6800},
            {1, 2049, 32, 1, 0x6801}, {0, 2051, 32, 1, 0x6802}, {2, -2049, 32, 1, 0xe800},
            {3, -2049, 32, 1, 0xe801}, {0, 65519, 32, 1, 0x7bff}, {0, 65520, 32, 1, 0x7c00},
            {4, 65535, 16, 0, 0x7bff}, {2, Integer.MIN_VALUE, 32, 1, 0xfbff},
            {3, Integer.MIN_VALUE, 32, 1, 0xfc00}, {0, Integer.MIN_VALUE, 32, 0, 0x7c00}};
        FloatCircuits object = new FloatCircuits();
        for (int[] row : rows) {
            check.due(row[4], object.ofWhole(row[0], row[1], row[2], row[3] == 1), "ofWhole", row);
        }
    }

    private static void wrongOnes(Check check) {
        int[][] wrong = {{-1, 0, 8}, {5, 0, 8}, {0, 0, 0}, {0, 0, -1}, {0, 0, 33}, {0, 0, 64}, {0, 0, 65},
            {Integer.MIN_VALUE, 0, 8}, {0, 0, Integer.MIN_VALUE}, {0, 0, Integer.MAX_VALUE}};
        FloatCircuits object = new FloatCircuits();
        object.format(3, 4);
        for (int[] row : wrong) {
            check.refused("ofWhole " + java.util.Arrays.toString(row),
                () -> object.ofWhole(row[0], row[1], row[2], true));
            check.refused("ofWhole " + java.util.Arrays.toString(row),
                () -> object.ofWhole(row[0], row[1], row[2], false));
        }
        check.due(24, object.ofWhole(0, 1, 32, true), "1 in 3, 4 after refused calls");
    }
}
