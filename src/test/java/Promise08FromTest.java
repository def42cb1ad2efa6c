/** Promise 8: FLOATs of other FORMATs. */
public final class Promise08FromTest {
    public static void main(String[] args) {
        Check check = new Check();
        for (int pair = 0; pair < 1600; pair++) {
            Reference origin = new Reference(2 + pair % 4, 2 + pair / 4 % 10);
            Reference present = new Reference(2 + pair / 40 % 4, 2 + pair / 160);
            asTheReference(check, origin, present);
        }
        writtenOut(check);
        wrongOnes(check);
        check.end();
    }

    private static void asTheReference(Check check, Reference origin, Reference present) {
        Fresh fresh = new Fresh(present.e, present.s);
        for (int x : origin.samples(512)) {
            for (int mode = 0; mode < Reference.MODES; mode++) {
                int got = fresh.next().from(origin.e, origin.s, mode, x);
                check.due(present.round(mode, origin.number(x)), got,
                    "from", origin.e, origin.s, present.e, present.s, mode, x);
            }
        }
    }

    /** From 5, 11 to 3, 4, whose greatest is 15 and least 1/32: mode, x, answer. */
    private static void writtenOut(Check check) {
        int[][] rows = {{0, 0x3c00, 24}, {0, 0x8000, 64}, {3, 0x0000, 0}, {0, 0xfc00, 120}, {0, 0xfc01, 60},
            {0, 0x4b7f, 55}, {0, 0x4bc0, 56}, {4, 0x4bff, 55}, {2, 0x4b81, 56}, {3, 0xcb81, 120},
            {0, 0x2400, 0}, {1, 0x2400, 1}, {0, 0x2401, 1}, {2, 0x8001, 64}, {3, 0x8001, 65}};
        FloatCircuits object = new FloatCircuits();
        object.format(3, 4);
        for (int[] row : rows) {
            check.due(row[2], object.from(5, 11, row[0], row[1]), "from 5, 11", row);
        }
        check.due(24, object.ofWhole(0, 1, 2, false), "the present FORMAT is the old one");
    }

    private static void wrongOnes(Check check) {
        int[][] wrong = {{1, 4, 0, 0}, {6, 4, 0, 0}, {3, 1, 0, 0}, {3, 12, 0, 0}, {3, 4, -1, 0}, {3, 4, 5, 0},
            {3, 4, 0, -1}, {3, 4, 0, 128}, {2, 2, 0, 16}, {5, 11, 0, 65536}, {-1, -1, -1, -1},
            {Integer.MAX_VALUE, 4, 0, 0}, {3, Integer.MIN_VALUE, 0, 0}, {5, 11, 0, Integer.MAX_VALUE}};
        FloatCircuits object = new FloatCircuits();
        object.format(3, 4);
        for (int[] row : wrong) {
            check.refused("from " + java.util.Arrays.toString(row),
                () -> object.from(row[0], row[1], row[2], row[3]));
        }
        check.due(60, object.from(5, 11, 0, 65535), "x of the FORMAT e, s, not of the present one");
        check.due(24, object.from(2, 2, 0, 2), "from after refused calls");
    }
}
