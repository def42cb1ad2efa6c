/** The edges of promise 10: toWhole. */
public final class EdgePromise10Test {
    public static void main(String[] args) {
        Check check = new Check();
        howManyBits(check);
        oneBit(check);
        withoutSign(check);
        withSign(check);
        nanAndInfinite(check);
        roundedOutOfTheBits(check);
        belowZeroWithoutSign(check);
        inTheLowestBits(check);
        rounds(check);
        zeros(check);
        refused(check);
        check.end();
    }

    /** The FLOAT of 5, 11 that is a whole number, which must be one of its. */
    private static int of(int whole) {
        return new Reference(5, 11).round(0, whole);
    }

    private static void howManyBits(Check check) {
        check.sentence("10: in m bits (1 .. 32)");
        for (int signed = 0; signed <= 1; signed++) {
            Run run = new Run(check);
            run.takes("toWhole", 0, 0x3c00, 1, signed);
            run.takes("toWhole", 0, 0x3c00, 32, signed);
            for (int m : new int[] {0, 33, -1, 64, 65, -31, Integer.MIN_VALUE, Integer.MAX_VALUE}) {
                run.refuses("toWhole", 0, 0x3c00, m, signed);
                run.refuses("toWhole", 0, 0x7e00, m, signed);
            }
        }
    }

    private static void oneBit(Check check) {
        check.sentence("10: the same: one bit holds 0 and 1, and with sign 0 and -1");
        for (Reference format : Reference.all()) {
            Run run = new Run(check, format);
            for (int mode = 0; mode <= 4; mode++) {
                run.answers(1, "toWhole", mode, format.one, 1, 0);
                run.answers(0, "toWhole", mode, format.power(1), 1, 0);
                run.answers(0, "toWhole", mode, format.minus(format.one), 1, 0);
                run.answers(0, "toWhole", mode, format.one, 1, 1);
                run.answers(1, "toWhole", mode, format.minus(format.one), 1, 1);
                run.answers(0, "toWhole", mode, format.minus(format.power(1)), 1, 1);
            }
        }
    }

    private static void withoutSign(Check check) {
        check.sentence("10: 0 if it is not within m bits: without sign 0 .. 2^m - 1");
        for (int m = 1; m <= 32; m++) {
            Run run = new Run(check);
            if (m <= 11) {
                run.answers((1 << m) - 1, "toWhole", 0, of((1 << m) - 1), m, 0);
            }
            if (m <= 15) {
                run.answers(0, "toWhole", 0, of(1 << m), m, 0);
                run.answers(1 << m, "toWhole", 0, of(1 << m), m + 1, 0);
            }
            run.answers(m >= 16 ? 65504 : 0, "toWhole", 0, 0x7bff, m, 0);
            run.answers(0, "toWhole", 0, of(-1), m, 0);
            run.answers(0, "toWhole", 0, 0xfbff, m, 0);
        }
    }

    private static void withSign(Check check) {
        check.sentence("10: 0 if it is not within m bits: with sign -2^(m - 1) .. 2^(m - 1) - 1");
        for (int m = 1; m <= 16; m++) {
            int power = 1 << (m - 1);
            Run run = new Run(check);
            run.answers(0, "toWhole", 0, of(power), m, 1);
            run.answers(power, "toWhole", 0, of(-power), m, 1);
            // The next whole number that is a FLOAT.
            run.answers(0, "toWhole", 0, m <= 11 ? of(-power - 1) : of(-power) + 1, m, 1);
            int greatest = m <= 12 ? power - 1 : power - (1 << (m - 12));
            run.answers(greatest, "toWhole", 0, of(greatest), m, 1);
            run.answers(0, "toWhole", 0, 0x7bff, m, 1);
            run.answers(0, "toWhole", 0, 0xfbff, m, 1);
        }
        for (int m = 17; m <= 32; m++) {
            Run run = new Run(check);
            run.answers(65504, "toWhole", 0, 0x7bff, m, 1);
            run.answers((int) ((1L << m) - 65504), "toWhole", 0, 0xfbff, m, 1);
        }
    }

    private static void nanAndInfinite(Check check) {
        check.sentence("10: 0 if it is none of these (NaN, infinite, ..)");
        for (Reference format : Reference.all()) {
            int[] edges = {format.infinity, format.minus(format.infinity), format.infinity + 1, format.nan,
                format.minus(format.nan), format.size - 1};
            for (int m = 1; m <= 32; m++) {
                Run run = new Run(check, format);
                for (int mode = 0; mode <= 4; mode++) {
                    for (int x : edges) {
                        run.answers(0, "toWhole", mode, x, m, 0);
                        run.answers(0, "toWhole", mode, x, m, 1);
                    }
                }
            }
        }
    }

    /** In 5, 11: x, m, with sign, and the answers in the MODES 0 to 4. */
    private static void roundedOutOfTheBits(Check check) {
        check.sentence("10: The whole number to which x rounds is what is within m bits or not");
        int[][] rows = {
            // 127.5 and 127.4375, -128.5 and -129.5 and -128.125 with sign.
            {0x57f8, 8, 1, 0, 0, 0, 127, 127}, {0x57f7, 8, 1, 127, 127, 0, 127, 127},
            {0xd804, 8, 1, 128, 0, 128, 0, 128}, {0xd80c, 8, 1, 0, 0, 0, 0, 0}, {0xd801, 8, 1, 128, 128, 128, 0, 128},
            // 255.5 and 255.375 without.
            {0x5bfc, 8, 0, 0, 0, 0, 255, 255}, {0x5bfb, 8, 0, 255, 255, 0, 255, 255},
            // 1.5 and 0.5 in one bit without sign, -0.5 and -1.5 in one with sign.
            {0x3e00, 1, 0, 0, 0, 0, 1, 1}, {0x3800, 1, 0, 0, 1, 1, 0, 0},
            {0xb800, 1, 1, 0, 1, 0, 1, 0}, {0xbe00, 1, 1, 0, 0, 1, 0, 1}};
        Run run = new Run(check);
        for (int[] row : rows) {
            for (int mode = 0; mode <= 4; mode++) {
                run.answers(row[3 + mode], "toWhole", mode, row[0], row[1], row[2]);
            }
        }
    }

    private static void belowZeroWithoutSign(Check check) {
        check.sentence("10: without sign what is below 0 is 0: it rounds to that, or is none of these");
        for (int m = 1; m <= 32; m++) {
            Run run = new Run(check);
            for (int x : new int[] {0x8001, 0xb800, 0xbbff, 0xbc00, 0xfbff}) {
                for (int mode = 0; mode <= 4; mode++) {
                    run.answers(0, "toWhole", mode, x, m, 0);
                }
            }
        }
    }

    private static void inTheLowestBits(Check check) {
        check.sentence("10: Answers it in the lowest m bits: those above are 0");
        for (int m = 2; m <= 31; m++) {
            Run run = new Run(check);
            run.answers(Integer.MAX_VALUE >>> (31 - m), "toWhole", 0, of(-1), m, 1);
            run.answers((Integer.MAX_VALUE >>> (31 - m)) - 1, "toWhole", 0, of(-2), m, 1);
        }
        Run all = new Run(check);
        all.answers(-1, "toWhole", 0, of(-1), 32, 1);
        all.answers(-65504, "toWhole", 0, 0xfbff, 32, 1);
        all.answers(65504, "toWhole", 0, 0x7bff, 32, 0);
    }

    /** In 5, 11: x, and the answers in the MODES 0 to 4, in 16 bits with sign. */
    private static void rounds(Check check) {
        check.sentence("10: to which x rounds: halves, what is beside them, the least FLOAT, and the greatest");
        int[][] rows = {{0x3800, 0, 1, 1, 0, 0}, {0x37ff, 0, 0, 1, 0, 0}, {0x3801, 1, 1, 1, 0, 0},
            {0x3e00, 2, 2, 2, 1, 1}, {0x4100, 2, 3, 3, 2, 2}, {0x0001, 0, 0, 1, 0, 0}, {0x03ff, 0, 0, 1, 0, 0},
            {0x3bff, 1, 1, 1, 0, 0}, {0x63ff, 1024, 1024, 1024, 1023, 1023},
            {0x77ff, 32752, 32752, 32752, 32752, 32752}, {0xb800, 0, 65535, 0, 65535, 0},
            {0x8001, 0, 0, 0, 65535, 0}, {0xbe00, 65534, 65534, 65535, 65534, 65535},
            {0xc100, 65534, 65533, 65534, 65533, 65534}, {0xf800, 32768, 32768, 32768, 32768, 32768}};
        Run run = new Run(check);
        for (int[] row : rows) {
            for (int mode = 0; mode <= 4; mode++) {
                run.answers(row[1 + mode], "toWhole", mode, row[0], 16, 1);
            }
        }
        // 3.5 rounds to 4, which is within 3 bits though no FLOAT of 2, 3 is 4.
        Run small = new Run(check, 2, 3);
        small.answers(4, "toWhole", 0, 11, 3, 0);
        small.answers(3, "toWhole", 4, 11, 3, 0);
        small.answers(4, "toWhole", 3, 27, 3, 1);
    }

    private static void zeros(Check check) {
        check.sentence("10: zeros are 0, whatever their sign");
        for (Reference format : Reference.all()) {
            Run run = new Run(check, format);
            for (int mode = 0; mode <= 4; mode++) {
                for (int signed = 0; signed <= 1; signed++) {
                    run.answers(0, "toWhole", mode, 0, 1, signed);
                    run.answers(0, "toWhole", mode, format.sign, 1, signed);
                    run.answers(0, "toWhole", mode, format.sign, 32, signed);
                }
            }
        }
    }

    private static void refused(Check check) {
        check.sentence("10: wrong numbers are refused, and the FORMAT stays");
        for (Reference format : Reference.all()) {
            Run run = new Run(check, format);
            for (int signed = 0; signed <= 1; signed++) {
                run.refuses("toWhole", -1, 0, 8, signed);
                run.refuses("toWhole", 5, 0, 8, signed);
                run.refuses("toWhole", 0, -1, 8, signed);
                run.refuses("toWhole", 0, format.size, 8, signed);
                run.refuses("toWhole", 0, format.nan, 0, signed);
                run.refuses("toWhole", 0, format.infinity, 33, signed);
            }
            run.isIn(format);
        }
    }
}
