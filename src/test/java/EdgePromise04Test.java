/** The edges of promise 4: change. */
public final class EdgePromise04Test {
    public static void main(String[] args) {
        Check check = new Check();
        kinds(check);
        rootsOfNoNumbers(check);
        exactRoots(check);
        rootsOfTheLeastAndTheGreatest(check);
        wholeOnesStay(check);
        wholeNumbersOfHalves(check);
        zerosKeepTheirSign(check);
        wholeNumbersOfTheLeast(check);
        signs(check);
        modeCountsForNothing(check);
        modeMustBeOne(check);
        signsOfNan(check);
        refused(check);
        check.end();
    }

    private static void kinds(Check check) {
        check.sentence("4: kind 0 the root, 1 the whole number, 2 x without its sign, 3 x with the other sign");
        Run run = new Run(check);
        run.answers(0x3e00, "change", 0, 0, 0x4080);
        run.answers(0x4000, "change", 1, 0, 0x4080);
        run.answers(0x4080, "change", 2, 0, 0xc080);
        run.answers(0xc080, "change", 3, 0, 0x4080);
        run.refuses("change", -1, 0, 0x4080);
        run.refuses("change", 4, 0, 0x4080);
    }

    private static void rootsOfNoNumbers(Check check) {
        check.sentence("4: the root of what is below 0 is NaN, of zero it is that zero, of infinite that");
        for (Reference format : Reference.all()) {
            Run run = new Run(check, format);
            for (int mode = 0; mode <= 4; mode++) {
                run.answers(0, "change", 0, mode, 0);
                run.answers(format.sign, "change", 0, mode, format.sign);
                run.answers(format.infinity, "change", 0, mode, format.infinity);
                int[] negative = {1, format.leastNormal - 1, format.leastNormal, format.one, format.greatest,
                    format.infinity, format.nan};
                for (int x : negative) {
                    run.answers(format.nan, "change", 0, mode, format.minus(x));
                }
            }
        }
    }

    private static void exactRoots(Check check) {
        check.sentence("4: the root of a square is exact in every MODE");
        for (Reference format : Reference.all()) {
            Run run = new Run(check, format);
            for (int mode = 0; mode <= 4; mode++) {
                run.answers(format.one, "change", 0, mode, format.one);
                int least = 2 - format.bias - format.s;
                for (int k = least + (least & 1); k <= format.bias; k += 2) {
                    run.answers(format.power(k / 2), "change", 0, mode, format.power(k));
                }
            }
        }
        Run nine = new Run(check);
        for (int mode = 0; mode <= 4; mode++) {
            nine.answers(0x4200, "change", 0, mode, 0x4880);
            nine.answers(0x3e00, "change", 0, mode, 0x4080);
        }
    }

    private static void rootsOfTheLeastAndTheGreatest(Check check) {
        check.sentence("4: the root of the least subnormal, of one next to a square, of the greatest");
        Run run = new Run(check);
        for (int mode = 0; mode <= 4; mode++) {
            int up = mode == 2 ? 1 : 0;
            run.answers(0x0c00, "change", 0, mode, 0x0001);
            run.answers(0x0da8 + up, "change", 0, mode, 0x0002);
            // 1 + 2^-10 has a root below the half of its last place, 1 - 2^-11 one at or below 1 - 2^-12.
            run.answers(0x3c00 + up, "change", 0, mode, 0x3c01);
            run.answers(mode == 2 ? 0x3c00 : 0x3bff, "change", 0, mode, 0x3bff);
            run.answers(mode == 2 ? 0x5c00 : 0x5bff, "change", 0, mode, 0x7bff);
        }
    }

    private static void wholeOnesStay(Check check) {
        check.sentence("4: a whole number stays, and so does what is infinite");
        for (Reference format : Reference.all()) {
            Run run = new Run(check, format);
            for (int mode = 0; mode <= 4; mode++) {
                for (int k = 0; k <= format.bias; k++) {
                    run.answers(format.power(k), "change", 1, mode, format.power(k));
                    run.answers(format.minus(format.power(k)), "change", 1, mode, format.minus(format.power(k)));
                }
                run.answers(format.infinity, "change", 1, mode, format.infinity);
                run.answers(format.minus(format.infinity), "change", 1, mode, format.minus(format.infinity));
            }
        }
        Run run = new Run(check);
        for (int mode = 0; mode <= 4; mode++) {
            run.answers(0x6401, "change", 1, mode, 0x6401);
            run.answers(0x6801, "change", 1, mode, 0x6801);
            run.answers(0x7bff, "change", 1, mode, 0x7bff);
            run.answers(0xfbff, "change", 1, mode, 0xfbff);
        }
    }

    /** In 5, 11: x, and the answers in the MODES 0 to 4. */
    private static void wholeNumbersOfHalves(Check check) {
        check.sentence("4: the whole number of 1/2, 3/2, 5/2, of steps beside them, and of what is below 0");
        int[][] rows = {{0x3800, 0, 0x3c00, 0x3c00, 0, 0}, {0x37ff, 0, 0, 0x3c00, 0, 0},
            {0x3801, 0x3c00, 0x3c00, 0x3c00, 0, 0}, {0x3bff, 0x3c00, 0x3c00, 0x3c00, 0, 0},
            {0x3e00, 0x4000, 0x4000, 0x4000, 0x3c00, 0x3c00}, {0x3dff, 0x3c00, 0x3c00, 0x4000, 0x3c00, 0x3c00},
            {0x4100, 0x4000, 0x4200, 0x4200, 0x4000, 0x4000}, {0x4101, 0x4200, 0x4200, 0x4200, 0x4000, 0x4000},
            {0xb800, 0x8000, 0xbc00, 0x8000, 0xbc00, 0x8000}, {0xbe00, 0xc000, 0xc000, 0xbc00, 0xc000, 0xbc00},
            {0xc100, 0xc000, 0xc200, 0xc000, 0xc200, 0xc000}, {0x63ff, 0x6400, 0x6400, 0x6400, 0x63fe, 0x63fe}};
        Run run = new Run(check);
        for (int[] row : rows) {
            for (int mode = 0; mode <= 4; mode++) {
                run.answers(row[1 + mode], "change", 1, mode, row[0]);
            }
        }
    }

    private static void zerosKeepTheirSign(Check check) {
        check.sentence("4: the whole number of a zero is that zero");
        for (Reference format : Reference.all()) {
            Run run = new Run(check, format);
            for (int mode = 0; mode <= 4; mode++) {
                run.answers(0, "change", 1, mode, 0);
                run.answers(format.sign, "change", 1, mode, format.sign);
            }
        }
    }

    private static void wholeNumbersOfTheLeast(Check check) {
        check.sentence("4: the whole number of what is less than 1/2 is 1 or a zero, with its sign");
        for (Reference format : Reference.all()) {
            if (format.power(-1) == 1) {
                // The least of 2, 2 is 1/2 itself.
                continue;
            }
            Run run = new Run(check, format);
            for (int x : new int[] {1, format.power(-1) - 1}) {
                for (int mode = 0; mode <= 4; mode++) {
                    run.answers(mode == 2 ? format.one : 0, "change", 1, mode, x);
                    run.answers(format.minus(mode == 3 ? format.one : 0), "change", 1, mode, format.minus(x));
                }
            }
        }
    }

    private static void signs(Check check) {
        check.sentence("4: 2 x without its sign, 3 x with the other sign: zeros and infinite ones too");
        for (Reference format : Reference.all()) {
            Run run = new Run(check, format);
            for (int x : new int[] {0, 1, format.leastNormal, format.one, format.greatest, format.infinity}) {
                run.answers(x, "change", 2, 0, x);
                run.answers(x, "change", 2, 0, format.minus(x));
                run.answers(format.minus(x), "change", 3, 0, x);
                run.answers(x, "change", 3, 0, format.minus(x));
            }
        }
    }

    private static void modeCountsForNothing(Check check) {
        check.sentence("4: 2, 3: the MODE counts for nothing");
        for (Reference format : Reference.all()) {
            Run run = new Run(check, format);
            for (int mode = 0; mode <= 4; mode++) {
                for (int x : new int[] {0, 1, format.greatest, format.infinity}) {
                    run.answers(x, "change", 2, mode, format.minus(x));
                    run.answers(format.minus(x), "change", 3, mode, x);
                    run.answers(x, "change", 3, mode, format.minus(x));
                }
            }
        }
    }

    private static void modeMustBeOne(Check check) {
        check.sentence("4: but must be one");
        Run run = new Run(check);
        for (int mode : new int[] {-1, 5, Integer.MIN_VALUE, Integer.MAX_VALUE}) {
            for (int x : new int[] {0, 0x3c00, 0x7e00}) {
                run.refuses("change", 2, mode, x);
                run.refuses("change", 3, mode, x);
            }
        }
    }

    private static void signsOfNan(Check check) {
        check.sentence("4: of NaN it is NaN");
        for (Reference format : Reference.all()) {
            for (int x : new int[] {format.infinity + 1, format.nan, format.sign - 1}) {
                Run run = new Run(check, format);
                for (int kind = 0; kind < 4; kind++) {
                    for (int mode = 0; mode <= 4; mode++) {
                        run.answers(format.nan, "change", kind, mode, x);
                        run.answers(format.nan, "change", kind, mode, format.minus(x));
                    }
                }
            }
        }
    }

    private static void refused(Check check) {
        check.sentence("4: wrong numbers are refused");
        for (Reference format : Reference.all()) {
            Run run = new Run(check, format);
            for (int kind = 0; kind < 4; kind++) {
                run.refuses("change", kind, 0, -1);
                run.refuses("change", kind, 0, format.size);
                run.refuses("change", kind, -1, 0);
                run.refuses("change", kind, 5, 0);
            }
            run.refuses("change", -1, 0, 0);
            run.refuses("change", 4, 0, 0);
            run.isIn(format);
        }
    }
}
