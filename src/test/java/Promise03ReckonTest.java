/** Promise 3: sums, differences, products and quotients. */
public final class Promise03ReckonTest {
    public static void main(String[] args) {
        Check check = new Check();
        for (int e = 2; e <= 5; e++) {
            for (int s = 2; s <= 11; s++) {
                asTheReference(check, new Reference(e, s));
            }
        }
        writtenOut(check);
        wrongOnes(check);
        check.end();
    }

    private static void asTheReference(Check check, Reference reference) {
        Fresh fresh = new Fresh(reference.e, reference.s);
        int[] samples = reference.samples(256);
        for (int x : samples) {
            for (int y : samples) {
                for (int kindAndMode = 0; kindAndMode < 4 * Reference.MODES; kindAndMode++) {
                    int kind = kindAndMode % 4;
                    int mode = kindAndMode / 4;
                    int got = fresh.next().reckon(kind, mode, x, y);
                    check.due(reference.reckon(kind, mode, x, y), got,
                        "reckon", reference.e, reference.s, kind, mode, x, y);
                }
            }
        }
    }

    /** Answers in 5, 11 that are known apart from the reference: kind, mode, x, y, answer. */
    private static void writtenOut(Check check) {
        int[][] rows = {
            {0, 0, 0x3c00, 0x1000, 0x3c00}, {0, 1, 0x3c00, 0x1000, 0x3c01}, {0, 0, 0x3c01, 0x1000, 0x3c02},
            {0, 2, 0x3c00, 0x0001, 0x3c01}, {0, 3, 0x3c00, 0x0001, 0x3c00}, {1, 4, 0x3c00, 0x0001, 0x3bff},
            {0, 0, 0x0000, 0x8000, 0x0000}, {0, 3, 0x0000, 0x8000, 0x8000}, {0, 3, 0x0000, 0x0000, 0x0000},
            {0, 0, 0x8000, 0x8000, 0x8000}, {1, 0, 0x8000, 0x0000, 0x8000}, {1, 3, 0x8000, 0x8000, 0x8000},
            {1, 2, 0x8000, 0x8000, 0x0000}, {0, 0, 0x7c00, 0xfc00, 0x7e00}, {1, 0, 0x7c00, 0x7c00, 0x7e00},
            {0, 4, 0x7bff, 0x7bff, 0x7bff}, {0, 2, 0xfbff, 0xfbff, 0xfbff}, {0, 3, 0xfbff, 0xfbff, 0xfc00},
            {0, 0, 0x7bff, 0x4c00, 0x7c00}, {0, 0, 0x7bff, 0x4bff, 0x7bff}, {0, 3, 0x7bff, 0x7bff, 0x7bff},
            {2, 0, 0x7c00, 0x8000, 0x7e00}, {2, 0, 0x7c00, 0x8001, 0xfc00}, {2, 0, 0x0001, 0x0001, 0x0000},
            {2, 2, 0x0001, 0x0001, 0x0001}, {2, 3, 0x8001, 0x0001, 0x8001}, {2, 0, 0x8001, 0x0001, 0x8000},
            {2, 0, 0x0001, 0x3800, 0x0000}, {2, 1, 0x0001, 0x3800, 0x0001}, {2, 0, 0x0400, 0x3bff, 0x0400},
            {3, 0, 0x3c00, 0x4200, 0x3555}, {3, 2, 0x3c00, 0x4200, 0x3556}, {3, 0, 0x3c00, 0x8000, 0xfc00},
            {3, 0, 0x8000, 0x3c00, 0x8000}, {3, 0, 0x7c00, 0x7c00, 0x7e00}, {3, 0, 0x7c00, 0x8000, 0xfc00},
            {3, 0, 0x3c00, 0xfc00, 0x8000}, {3, 3, 0x7bff, 0x0001, 0x7bff}, {3, 1, 0x7bff, 0x8001, 0xfc00},
            {0, 0, 0x7c01, 0x3c00, 0x7e00}, {2, 0, 0x3c00, 0xffff, 0x7e00}, {3, 4, 0x0000, 0x0000, 0x7e00}};
        FloatCircuits object = new FloatCircuits();
        for (int[] row : rows) {
            check.due(row[4], object.reckon(row[0], row[1], row[2], row[3]), "reckon", row);
        }
    }

    private static void wrongOnes(Check check) {
        int[][] wrong = {{-1, 0, 0, 0}, {4, 0, 0, 0}, {0, -1, 0, 0}, {0, 5, 0, 0}, {0, 0, -1, 0},
            {0, 0, 0, -1}, {0, 0, 128, 0}, {0, 0, 0, 128}, {3, 4, Integer.MAX_VALUE, 0},
            {3, 4, 0, Integer.MIN_VALUE}, {Integer.MAX_VALUE, 0, 0, 0}, {0, Integer.MIN_VALUE, 0, 0}};
        FloatCircuits object = new FloatCircuits();
        object.format(3, 4);
        for (int[] row : wrong) {
            check.refused("reckon " + java.util.Arrays.toString(row),
                () -> object.reckon(row[0], row[1], row[2], row[3]));
        }
        check.due(32, object.reckon(0, 0, 24, 24), "1 + 1 in 3, 4 after refused calls");
    }
}
