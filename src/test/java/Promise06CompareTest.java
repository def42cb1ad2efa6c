/** Promise 6: less, less or equal, equal, the same FLOAT. */
public final class Promise06CompareTest {
    public static void main(String[] args) {
        Check check = new Check();
        for (int e = 2; e <= 5; e++) {
            for (int s = 2; s <= 11; s++) {
                asTheReference(check, new Reference(e, s));
            }
        }
        writtenOut(check);
        wrongOnes(check);
        check.end();
    }

    private static void asTheReference(Check check, Reference reference) {
        Fresh fresh = new Fresh(reference.e, reference.s);
        int[] samples = reference.samples(256);
        for (int x : samples) {
            for (int y : samples) {
                double a = reference.number(x);
                double b = reference.number(y);
                boolean same = x == y || (reference.isNan(x) && reference.isNan(y));
                boolean[] due = {a < b, a <= b, a == b, same};
                for (int kind = 0; kind < 4; kind++) {
                    check.due(due[kind], fresh.next().compare(kind, x, y),
                        "compare", reference.e, reference.s, kind, x, y);
                }
            }
        }
    }

    /** In 5, 11: x, y, and the answers of kinds 0 to 3. */
    private static void writtenOut(Check check) {
        int[][] rows = {{0, 0x8000, 0, 1, 1, 0}, {0x8000, 0, 0, 1, 1, 0}, {0x8001, 0, 1, 1, 0, 0},
            {0xfc00, 0x7c00, 1, 1, 0, 0}, {0x7c00, 0x7c00, 0, 1, 1, 1}, {0x7c01, 0xffff, 0, 0, 0, 1},
            {0x7e00, 0x7e00, 0, 0, 0, 1}, {0x7e00, 0x3c00, 0, 0, 0, 0}, {0x3c00, 0xfe00, 0, 0, 0, 0},
            {0xc000, 0xbc00, 1, 1, 0, 0}, {0xbc00, 0xc000, 0, 0, 0, 0}, {0x3c00, 0x3c00, 0, 1, 1, 1}};
        FloatCircuits object = new FloatCircuits();
        for (int[] row : rows) {
            for (int kind = 0; kind < 4; kind++) {
                check.due(row[2 + kind] == 1, object.compare(kind, row[0], row[1]), "compare", kind, row[0], row[1]);
            }
        }
    }

    private static void wrongOnes(Check check) {
        int[][] wrong = {{-1, 0, 0}, {4, 0, 0}, {0, 128, 0}, {0, -1, 0}, {3, 0, 128}, {3, 0, -1},
            {2, 127, 128}, {Integer.MIN_VALUE, 0, 0}, {0, Integer.MAX_VALUE, 0}};
        FloatCircuits object = new FloatCircuits();
        object.format(3, 4);
        for (int[] row : wrong) {
            check.refused("compare " + java.util.Arrays.toString(row),
                () -> object.compare(row[0], row[1], row[2]));
        }
        check.due(true, object.compare(0, 24, 32), "compare in 3, 4 after refused calls");
    }
}
