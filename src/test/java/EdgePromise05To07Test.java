/** The edges of promises 5, 6 and 7: least, compare and is. */
public final class EdgePromise05To07Test {
    public static void main(String[] args) {
        Check check = new Check();
        Reference[] formats = Reference.all();
        theLessAndTheGreater(check, formats);
        zerosOfTwoSigns(check, formats);
        oneNan(check, formats);
        twoNan(check, formats);
        leastRefused(check, formats);
        less(check, formats);
        lessOrEqual(check, formats);
        equal(check, formats);
        theSame(check, formats);
        compareRefused(check, formats);
        kindsOfFloats(check, formats);
        hasTheSign(check, formats);
        noNanHasASign(check, formats);
        isRefused(check, formats);
        check.end();
    }

    /** Neighbours and edges in the order of what they stand for, the least first; one zero alone. */
    private static int[] ladder(Reference format) {
        int[] above = {0, 1, format.leastNormal - 1, format.leastNormal, format.one, format.greatest, format.infinity};
        int[] all = new int[2 * above.length - 1];
        for (int i = 0; i < above.length; i++) {
            all[above.length - 1 - i] = format.minus(above[i]);
            all[above.length - 1 + i] = above[i];
        }
        return all;
    }

    /** Whether two rungs differ: in 2, 2 and its like some edges are one FLOAT. */
    private static boolean isBelow(int[] ladder, int i, int j) {
        return i < j && ladder[i] != ladder[j];
    }

    private static void theLessAndTheGreater(Check check, Reference[] formats) {
        check.sentence("5: The less one, or (greatest) the greater one");
        for (Reference format : formats) {
            int[] ladder = ladder(format);
            for (int i = 0; i < ladder.length; i++) {
                Run run = new Run(check, format);
                for (int j = i; j < ladder.length; j++) {
                    run.answers(ladder[i], "least", ladder[i], ladder[j], 0);
                    run.answers(ladder[i], "least", ladder[j], ladder[i], 0);
                    run.answers(ladder[j], "least", ladder[i], ladder[j], 1);
                    run.answers(ladder[j], "least", ladder[j], ladder[i], 1);
                }
            }
        }
    }

    private static void zerosOfTwoSigns(Check check, Reference[] formats) {
        check.sentence("5: zeros of two signs: y");
        for (Reference format : formats) {
            Run run = new Run(check, format);
            for (int greatest = 0; greatest <= 1; greatest++) {
                run.answers(format.sign, "least", 0, format.sign, greatest);
                run.answers(0, "least", format.sign, 0, greatest);
                run.answers(0, "least", 0, 0, greatest);
                run.answers(format.sign, "least", format.sign, format.sign, greatest);
            }
        }
    }

    private static void oneNan(Check check, Reference[] formats) {
        check.sentence("5: if one is NaN the other one");
        for (Reference format : formats) {
            for (int nan : new int[] {format.infinity + 1, format.nan, format.minus(format.nan), format.size - 1}) {
                Run run = new Run(check, format);
                for (int x : ladder(format)) {
                    for (int greatest = 0; greatest <= 1; greatest++) {
                        run.answers(x, "least", x, nan, greatest);
                        run.answers(x, "least", nan, x, greatest);
                    }
                }
                run.answers(0, "least", 0, nan, 0);
                run.answers(0, "least", nan, 0, 1);
            }
        }
    }

    private static void twoNan(Check check, Reference[] formats) {
        check.sentence("5: of two NaN: NaN");
        for (Reference format : formats) {
            int[] nans = {format.infinity + 1, format.nan, format.minus(format.nan), format.size - 1};
            Run run = new Run(check, format);
            for (int x : nans) {
                for (int y : nans) {
                    run.answers(format.nan, "least", x, y, 0);
                    run.answers(format.nan, "least", x, y, 1);
                }
            }
        }
    }

    private static void leastRefused(Check check, Reference[] formats) {
        check.sentence("5: wrong numbers are refused, beside NaN too");
        for (Reference format : formats) {
            Run run = new Run(check, format);
            for (int x : new int[] {0, format.nan, format.size - 1}) {
                for (int greatest = 0; greatest <= 1; greatest++) {
                    run.refuses("least", x, format.size, greatest);
                    run.refuses("least", x, -1, greatest);
                    run.refuses("least", format.size, x, greatest);
                    run.refuses("least", -1, x, greatest);
                }
            }
            run.isIn(format);
        }
    }

    private static void less(Check check, Reference[] formats) {
        check.sentence("6: kind 0: x < y");
        for (Reference format : formats) {
            int[] ladder = ladder(format);
            for (int i = 0; i < ladder.length; i++) {
                Run run = new Run(check, format);
                for (int j = 0; j < ladder.length; j++) {
                    run.answers(isBelow(ladder, i, j) ? 1 : 0, "compare", 0, ladder[i], ladder[j]);
                }
            }
            Run run = new Run(check, format);
            run.answers(0, "compare", 0, 0, format.sign);
            run.answers(0, "compare", 0, format.sign, 0);
            neverOfNan(run, format, 0);
        }
    }

    private static void lessOrEqual(Check check, Reference[] formats) {
        check.sentence("6: 1: x <= y");
        for (Reference format : formats) {
            int[] ladder = ladder(format);
            for (int i = 0; i < ladder.length; i++) {
                Run run = new Run(check, format);
                for (int j = 0; j < ladder.length; j++) {
                    run.answers(isBelow(ladder, j, i) ? 0 : 1, "compare", 1, ladder[i], ladder[j]);
                }
            }
            Run run = new Run(check, format);
            run.answers(1, "compare", 1, 0, format.sign);
            run.answers(1, "compare", 1, format.sign, 0);
            neverOfNan(run, format, 1);
        }
    }

    private static void equal(Check check, Reference[] formats) {
        check.sentence("6: 2: they are equal (no NaN; zeros are)");
        for (Reference format : formats) {
            int[] ladder = ladder(format);
            for (int i = 0; i < ladder.length; i++) {
                Run run = new Run(check, format);
                for (int j = 0; j < ladder.length; j++) {
                    run.answers(ladder[i] == ladder[j] ? 1 : 0, "compare", 2, ladder[i], ladder[j]);
                }
            }
            Run run = new Run(check, format);
            run.answers(1, "compare", 2, 0, format.sign);
            run.answers(1, "compare", 2, format.sign, 0);
            run.answers(1, "compare", 2, 0, 0);
            neverOfNan(run, format, 2);
        }
    }

    private static void neverOfNan(Run run, Reference format, int kind) {
        for (int nan : new int[] {format.infinity + 1, format.nan, format.minus(format.nan), format.size - 1}) {
            run.answers(0, "compare", kind, nan, nan);
            run.answers(0, "compare", kind, nan, format.nan);
            for (int x : new int[] {0, format.one, format.infinity, format.minus(format.infinity)}) {
                run.answers(0, "compare", kind, nan, x);
                run.answers(0, "compare", kind, x, nan);
            }
        }
    }

    private static void theSame(Check check, Reference[] formats) {
        check.sentence("6: 3 the same FLOAT (all NaN are)");
        for (Reference format : formats) {
            int[] ladder = ladder(format);
            for (int i = 0; i < ladder.length; i++) {
                Run run = new Run(check, format);
                for (int j = 0; j < ladder.length; j++) {
                    run.answers(ladder[i] == ladder[j] ? 1 : 0, "compare", 3, ladder[i], ladder[j]);
                }
            }
            Run run = new Run(check, format);
            run.answers(0, "compare", 3, 0, format.sign);
            run.answers(0, "compare", 3, format.sign, 0);
            int[] nans = {format.infinity + 1, format.nan, format.minus(format.nan), format.size - 1};
            for (int x : nans) {
                for (int y : nans) {
                    run.answers(1, "compare", 3, x, y);
                }
                run.answers(0, "compare", 3, x, format.infinity);
                run.answers(0, "compare", 3, 0, x);
            }
        }
    }

    private static void compareRefused(Check check, Reference[] formats) {
        check.sentence("6: wrong numbers are refused, beside NaN too");
        for (Reference format : formats) {
            Run run = new Run(check, format);
            for (int x : new int[] {0, format.nan, format.size - 1}) {
                for (int kind = 0; kind < 4; kind++) {
                    run.refuses("compare", kind, x, format.size);
                    run.refuses("compare", kind, x, -1);
                    run.refuses("compare", kind, format.size, x);
                    run.refuses("compare", kind, -1, x);
                }
                run.refuses("compare", -1, x, x);
                run.refuses("compare", 4, x, x);
            }
            run.isIn(format);
        }
    }

    private static void kindsOfFloats(Check check, Reference[] formats) {
        check.sentence("7: kind 0 x is normal, 1 subnormal, 2 zero, 3 infinite, 4 NaN");
        for (Reference format : formats) {
            // Each edge, and the one of the kinds 0 to 4 that it is.
            int[][] rows = {{0, 2}, {1, 1}, {format.leastNormal - 1, 1}, {format.leastNormal, 0}, {format.one, 0},
                {format.greatest, 0}, {format.infinity, 3}, {format.infinity + 1, 4}, {format.nan, 4},
                {format.sign - 1, 4}};
            Run run = new Run(check, format);
            for (int[] row : rows) {
                for (int kind = 0; kind <= 4; kind++) {
                    run.answers(kind == row[1] ? 1 : 0, "is", kind, row[0]);
                    run.answers(kind == row[1] ? 1 : 0, "is", kind, format.minus(row[0]));
                }
            }
        }
    }

    private static void hasTheSign(Check check, Reference[] formats) {
        check.sentence("7: 5 has the sign, 6 has not");
        for (Reference format : formats) {
            Run run = new Run(check, format);
            for (int x : new int[] {0, 1, format.leastNormal, format.one, format.greatest, format.infinity}) {
                run.answers(0, "is", 5, x);
                run.answers(1, "is", 6, x);
                run.answers(1, "is", 5, format.minus(x));
                run.answers(0, "is", 6, format.minus(x));
            }
        }
    }

    private static void noNanHasASign(Check check, Reference[] formats) {
        check.sentence("7: (5, 6: no NaN)");
        for (Reference format : formats) {
            Run run = new Run(check, format);
            for (int nan : new int[] {format.infinity + 1, format.nan, format.sign - 1}) {
                for (int kind = 5; kind <= 6; kind++) {
                    run.answers(0, "is", kind, nan);
                    run.answers(0, "is", kind, format.minus(nan));
                }
            }
        }
    }

    private static void isRefused(Check check, Reference[] formats) {
        check.sentence("7: wrong numbers are refused");
        for (Reference format : formats) {
            Run run = new Run(check, format);
            for (int kind = 0; kind <= 6; kind++) {
                run.refuses("is", kind, -1);
                run.refuses("is", kind, format.size);
            }
            run.refuses("is", -1, 0);
            run.refuses("is", 7, 0);
            run.isIn(format);
        }
    }
}
