/** The edges of promise 9: ofWhole. */
public final class EdgePromise09Test {
    public static void main(String[] args) {
        Check check = new Check();
        howManyBits(check);
        oneBit(check);
        higherBitsCountForNothing(check);
        theSignIsTheHighestOfThem(check);
        allBits(check);
        zero(check);
        anyV(check);
        rounds(check);
        refused(check);
        check.end();
    }

    private static int bit(int number) {
        return 1 << number;
    }

    private static void howManyBits(Check check) {
        check.sentence("9: the lowest w bits of v (1 .. 32)");
        for (int signed = 0; signed <= 1; signed++) {
            Run run = new Run(check);
            run.takes("ofWhole", 0, 1, 1, signed);
            run.takes("ofWhole", 0, 1, 32, signed);
            for (int w : new int[] {0, 33, -1, 64, 65, -31, Integer.MIN_VALUE, Integer.MAX_VALUE}) {
                run.refuses("ofWhole", 0, 1, w, signed);
                run.refuses("ofWhole", 0, 0, w, signed);
            }
        }
    }

    private static void oneBit(Check check) {
        check.sentence("9: the same: one bit is 0 or 1, and with sign 0 or -1");
        for (Reference format : Reference.all()) {
            Run run = new Run(check, format);
            for (int mode = 0; mode <= 4; mode++) {
                run.answers(0, "ofWhole", mode, 0, 1, 0);
                run.answers(format.one, "ofWhole", mode, 1, 1, 0);
                run.answers(0, "ofWhole", mode, 0, 1, 1);
                run.answers(format.minus(format.one), "ofWhole", mode, 1, 1, 1);
                run.answers(0, "ofWhole", mode, -2, 1, 1);
                run.answers(format.one, "ofWhole", mode, -1, 1, 0);
            }
        }
    }

    private static void higherBitsCountForNothing(Check check) {
        check.sentence("9: the same: the bits above them count for nothing");
        for (int w = 1; w < 32; w++) {
            Run run = new Run(check);
            for (int above : new int[] {bit(w), -bit(w), bit(31)}) {
                run.answers(0, "ofWhole", 0, above, w, 0);
                run.answers(0, "ofWhole", 0, above, w, 1);
                run.answers(0x3c00, "ofWhole", 0, above | 1, w, 0);
                run.answers(w == 1 ? 0xbc00 : 0x3c00, "ofWhole", 0, above | 1, w, 1);
            }
        }
    }

    private static void theSignIsTheHighestOfThem(Check check) {
        check.sentence("9: taken with sign or without: the highest of the w bits");
        Reference format = new Reference(5, 11);
        for (int w = 2; w <= 32; w++) {
            int power = w <= 16 ? format.power(w - 1) : format.infinity;
            Run run = new Run(check);
            run.answers(power, "ofWhole", 0, bit(w - 1), w, 0);
            run.answers(format.minus(power), "ofWhole", 0, bit(w - 1), w, 1);
            run.answers(format.minus(format.one), "ofWhole", 0, -1, w, 1);
            run.answers(format.minus(format.power(1)), "ofWhole", 0, -2, w, 1);
            if (w <= 12) {
                // All bits below the sign are still a FLOAT of 11 places.
                int greatest = format.round(0, bit(w - 1) - 1);
                run.answers(greatest, "ofWhole", 0, bit(w - 1) - 1, w, 1);
                run.answers(greatest, "ofWhole", 0, bit(w - 1) - 1, w, 0);
            }
        }
    }

    private static void allBits(Check check) {
        check.sentence("9: the same: all bits are -1, or the greatest without sign");
        for (Reference format : Reference.all()) {
            for (int w = 1; w <= 32; w++) {
                Run run = new Run(check, format);
                for (int mode = 0; mode <= 4; mode++) {
                    run.answers(format.minus(format.one), "ofWhole", mode, -1, w, 1);
                    int due = format.round(mode, Math.pow(2, w) - 1);
                    run.answers(due, "ofWhole", mode, -1, w, 0);
                }
            }
        }
    }

    private static void zero(Check check) {
        check.sentence("9: zero has no sign, whatever the MODE");
        for (Reference format : Reference.all()) {
            for (int w = 1; w <= 32; w++) {
                Run run = new Run(check, format);
                for (int mode = 0; mode <= 4; mode++) {
                    run.answers(0, "ofWhole", mode, 0, w, 0);
                    run.answers(0, "ofWhole", mode, 0, w, 1);
                }
            }
        }
    }

    private static void anyV(Check check) {
        check.sentence("9: v may be any number");
        Run run = new Run(check);
        run.answers(0xfc00, "ofWhole", 0, Integer.MIN_VALUE, 32, 1);
        run.answers(0x7c00, "ofWhole", 0, Integer.MIN_VALUE, 32, 0);
        run.answers(0xfbff, "ofWhole", 4, Integer.MIN_VALUE, 32, 1);
        run.answers(0x7bff, "ofWhole", 4, Integer.MIN_VALUE, 32, 0);
        run.answers(0x7c00, "ofWhole", 0, Integer.MAX_VALUE, 32, 1);
        run.answers(0, "ofWhole", 0, Integer.MIN_VALUE, 31, 1);
        run.answers(0xbc00, "ofWhole", 0, Integer.MAX_VALUE, 31, 1);
    }

    /** In 5, 11: v, and the answers in the MODES 0 to 4. */
    private static void rounds(Check check) {
        check.sentence("9: The FLOAT to which they round: up to 2048 all are FLOATs of 5, 11, then every second one");
        int[][] rows = {{2047, 0x67ff, 0x67ff, 0x67ff, 0x67ff, 0x67ff}, {2048, 0x6800, 0x6800, 0x6800, 0x6800, 0x6800},
            {2049, 0x6800, 0x6801, 0x6801, 0x6800, 0x6800}, {2051, 0x6802, 0x6802, 0x6802, 0x6801, 0x6801},
            {-2049, 0xe800, 0xe801, 0xe800, 0xe801, 0xe800}, {-2051, 0xe802, 0xe802, 0xe801, 0xe802, 0xe801},
            {4095, 0x6c00, 0x6c00, 0x6c00, 0x6bff, 0x6bff}, {65504, 0x7bff, 0x7bff, 0x7bff, 0x7bff, 0x7bff},
            {65505, 0x7bff, 0x7bff, 0x7c00, 0x7bff, 0x7bff}, {65519, 0x7bff, 0x7bff, 0x7c00, 0x7bff, 0x7bff},
            {65520, 0x7c00, 0x7c00, 0x7c00, 0x7bff, 0x7bff}, {-65520, 0xfc00, 0xfc00, 0xfbff, 0xfc00, 0xfbff}};
        Run run = new Run(check);
        for (int[] row : rows) {
            for (int mode = 0; mode <= 4; mode++) {
                run.answers(row[1 + mode], "ofWhole", mode, row[0], 32, 1);
            }
        }
    }

    private static void refused(Check check) {
        check.sentence("9: wrong numbers are refused, and the FORMAT stays");
        for (Reference format : Reference.all()) {
            Run run = new Run(check, format);
            for (int signed = 0; signed <= 1; signed++) {
                run.refuses("ofWhole", -1, 1, 8, signed);
                run.refuses("ofWhole", 5, 1, 8, signed);
                run.refuses("ofWhole", 0, 1, 0, signed);
                run.refuses("ofWhole", 0, 1, 33, signed);
            }
            run.isIn(format);
        }
    }
}
