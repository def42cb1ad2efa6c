/** Promise 4: the root, the whole number, and x without or with the other sign. */
public final class Promise04ChangeTest {
    public static void main(String[] args) {
        Check check = new Check();
        for (int e = 2; e <= 5; e++) {
            for (int s = 2; s <= 11; s++) {
                asTheReference(check, new Reference(e, s));
            }
        }
        writtenOut(check);
        wholeNumbersBeyondTheGreatest(check);
        wrongOnes(check);
        check.end();
    }

    private static void asTheReference(Check check, Reference reference) {
        Fresh fresh = new Fresh(reference.e, reference.s);
        for (int x = 0; x < reference.size; x++) {
            for (int mode = 0; mode < Reference.MODES; mode++) {
                int whole = reference.round(mode, Reference.whole(mode, reference.number(x)));
                int opposite = (x + reference.sign) % reference.size;
                int[] due = {reference.root(mode, x), whole,
                    reference.isNan(x) ? reference.nan : x % reference.sign,
                    reference.isNan(x) ? reference.nan : opposite};
                for (int kind = 0; kind < 4; kind++) {
                    check.due(due[kind], fresh.next().change(kind, mode, x),
                        "change", reference.e, reference.s, kind, mode, x);
                }
            }
        }
    }

    /** Answers in 5, 11 that are known apart from the reference: kind, mode, x, answer. */
    private static void writtenOut(Check check) {
        int[][] rows = {
            {0, 0, 0x4000, 0x3da8}, {0, 2, 0x4000, 0x3da9}, {0, 0, 0x4400, 0x4000}, {0, 0, 0x0001, 0x0c00},
            {0, 0, 0x8000, 0x8000}, {0, 0, 0x8001, 0x7e00}, {0, 0, 0xfc00, 0x7e00}, {0, 0, 0x7c00, 0x7c00},
            {0, 0, 0x7c01, 0x7e00}, {1, 0, 0x3800, 0x0000}, {1, 0, 0xb800, 0x8000}, {1, 0, 0x3e00, 0x4000},
            {1, 0, 0x4100, 0x4000}, {1, 1, 0x4100, 0x4200}, {1, 1, 0xb800, 0xbc00}, {1, 2, 0xbbff, 0x8000},
            {1, 3, 0x0001, 0x0000}, {1, 3, 0x8001, 0xbc00}, {1, 4, 0xbfff, 0xbc00}, {1, 2, 0x8000, 0x8000},
            {1, 0, 0x7bff, 0x7bff}, {1, 0, 0xfc00, 0xfc00}, {1, 0, 0xffff, 0x7e00}, {2, 4, 0x8000, 0x0000},
            {2, 0, 0xfc00, 0x7c00}, {3, 0, 0x0000, 0x8000}, {3, 0, 0xfc00, 0x7c00}, {3, 0, 0xfe00, 0x7e00}};
        FloatCircuits object = new FloatCircuits();
        for (int[] row : rows) {
            check.due(row[3], object.change(row[0], row[1], row[2]), "change", row);
        }
    }

    /** The greatest of 2, 3 is 3.5: where that rounds to 4, it is beyond the greatest. */
    private static void wholeNumbersBeyondTheGreatest(Check check) {
        int[][] rows = {{0, 11, 12}, {1, 11, 12}, {2, 11, 12}, {3, 11, 10}, {4, 11, 10},
            {0, 27, 28}, {1, 27, 28}, {2, 27, 26}, {3, 27, 28}, {4, 27, 26}};
        FloatCircuits object = new FloatCircuits();
        object.format(2, 3);
        for (int[] row : rows) {
            check.due(row[2], object.change(1, row[0], row[1]), "whole number in 2, 3", row);
        }
    }

    private static void wrongOnes(Check check) {
        int[][] wrong = {{-1, 0, 0}, {4, 0, 0}, {0, -1, 0}, {0, 5, 0}, {1, 5, 0}, {2, 5, 0}, {3, -1, 0},
            {2, 0, 128}, {3, 0, -1}, {0, 0, 128}, {1, 0, Integer.MIN_VALUE}, {1, 0, Integer.MAX_VALUE}};
        FloatCircuits object = new FloatCircuits();
        object.format(3, 4);
        for (int[] row : wrong) {
            check.refused("change " + java.util.Arrays.toString(row),
                () -> object.change(row[0], row[1], row[2]));
        }
        check.due(32, object.change(0, 0, 40), "the root of 4 in 3, 4 after refused calls");
    }
}
