/** The edges of promise 3: reckon with what is infinite or zero, and with wrong numbers. */
public final class EdgePromise03Test {
    public static void main(String[] args) {
        Check check = new Check();
        kinds(check);
        order(check);
        sumsOfInfinities(check);
        productsOfInfinities(check);
        quotientsOfInfinitiesAndZeros(check);
        zerosOfProductsAndQuotients(check);
        exactQuotients(check);
        quotientsOfTheLeast(check);
        refused(check);
        check.end();
    }

    private static void kinds(Check check) {
        check.sentence("3: kind 0 sum, 1 difference, 2 product, 3 quotient");
        for (Reference format : Reference.all()) {
            // 2 and 1 in every FORMAT; 3 is one too.
            int one = format.one;
            int two = format.power(1);
            Run run = new Run(check, format);
            for (int mode = 0; mode <= 4; mode++) {
                run.answers(two + format.leastNormal / 2, "reckon", 0, mode, two, one);
                run.answers(one, "reckon", 1, mode, two, one);
                run.answers(two, "reckon", 2, mode, two, one);
                run.answers(format.power(-1), "reckon", 3, mode, one, two);
            }
            run.refuses("reckon", -1, 0, one, two);
            run.refuses("reckon", 4, 0, one, two);
        }
    }

    private static void order(Check check) {
        check.sentence("3: of x and y, in this order");
        for (Reference format : Reference.all()) {
            int one = format.one;
            int two = format.power(1);
            Run run = new Run(check, format);
            run.answers(format.minus(one), "reckon", 1, 0, one, two);
            run.answers(one, "reckon", 1, 0, two, one);
            run.answers(two, "reckon", 3, 0, two, one);
            run.answers(format.power(-1), "reckon", 3, 0, one, two);
        }
    }

    private static void sumsOfInfinities(Check check) {
        check.sentence("3: sums and differences of infinite ones");
        for (Reference format : Reference.all()) {
            int most = format.infinity;
            int least = format.minus(most);
            for (int mode = 0; mode <= 4; mode++) {
                Run run = new Run(check, format);
                run.answers(format.nan, "reckon", 0, mode, most, least);
                run.answers(format.nan, "reckon", 0, mode, least, most);
                run.answers(format.nan, "reckon", 1, mode, most, most);
                run.answers(format.nan, "reckon", 1, mode, least, least);
                run.answers(most, "reckon", 0, mode, most, most);
                run.answers(least, "reckon", 0, mode, least, least);
                run.answers(most, "reckon", 1, mode, most, least);
                run.answers(least, "reckon", 1, mode, least, most);
                for (int x : new int[] {0, format.sign, 1, format.greatest, format.minus(format.greatest)}) {
                    run.answers(most, "reckon", 0, mode, most, x);
                    run.answers(least, "reckon", 0, mode, x, least);
                    run.answers(most, "reckon", 1, mode, most, x);
                    run.answers(least, "reckon", 1, mode, x, most);
                }
            }
        }
    }

    private static void productsOfInfinities(Check check) {
        check.sentence("3: products of infinite ones, and of these and zeros");
        for (Reference format : Reference.all()) {
            int most = format.infinity;
            int least = format.minus(most);
            for (int mode = 0; mode <= 4; mode++) {
                Run run = new Run(check, format);
                for (int zero : new int[] {0, format.sign}) {
                    run.answers(format.nan, "reckon", 2, mode, most, zero);
                    run.answers(format.nan, "reckon", 2, mode, zero, least);
                }
                for (int x : new int[] {1, format.one, format.greatest, most}) {
                    run.answers(most, "reckon", 2, mode, most, x);
                    run.answers(least, "reckon", 2, mode, x, least);
                    run.answers(least, "reckon", 2, mode, most, format.minus(x));
                    run.answers(most, "reckon", 2, mode, format.minus(x), least);
                }
            }
        }
    }

    private static void quotientsOfInfinitiesAndZeros(Check check) {
        check.sentence("3: quotients of and by infinite ones and zeros");
        for (Reference format : Reference.all()) {
            for (int mode = 0; mode <= 4; mode++) {
                Run run = new Run(check, format);
                for (int signs = 0; signs < 4; signs++) {
                    int x = signs % 2 * format.sign;
                    int y = signs / 2 * format.sign;
                    int both = x ^ y;
                    run.answers(format.nan, "reckon", 3, mode, x, y);
                    run.answers(format.nan, "reckon", 3, mode, x + format.infinity, y + format.infinity);
                    run.answers(both + format.infinity, "reckon", 3, mode, x + format.infinity, y);
                    run.answers(both, "reckon", 3, mode, x, y + format.infinity);
                    for (int finite : new int[] {1, format.leastNormal, format.greatest}) {
                        run.answers(both + format.infinity, "reckon", 3, mode, x + finite, y);
                        run.answers(both, "reckon", 3, mode, x, y + finite);
                        run.answers(both + format.infinity, "reckon", 3, mode, x + format.infinity, y + finite);
                        run.answers(both, "reckon", 3, mode, x + finite, y + format.infinity);
                    }
                }
            }
        }
    }

    private static void zerosOfProductsAndQuotients(Check check) {
        check.sentence("3: a zero that is a factor gives the sign of both, whatever the MODE");
        for (Reference format : Reference.all()) {
            for (int mode = 0; mode <= 4; mode++) {
                Run run = new Run(check, format);
                for (int x : new int[] {0, 1, format.greatest}) {
                    run.answers(0, "reckon", 2, mode, 0, x);
                    run.answers(format.sign, "reckon", 2, mode, format.minus(x), 0);
                    run.answers(format.sign, "reckon", 2, mode, x, format.sign);
                    run.answers(0, "reckon", 2, mode, format.sign, format.minus(x));
                }
            }
        }
    }

    private static void exactQuotients(Check check) {
        check.sentence("3: the least, the greatest and the subnormals divided by themselves are 1");
        for (Reference format : Reference.all()) {
            for (int mode = 0; mode <= 4; mode++) {
                Run run = new Run(check, format);
                for (int x : new int[] {1, format.leastNormal - 1, format.leastNormal, format.greatest}) {
                    run.answers(format.one, "reckon", 3, mode, x, x);
                    run.answers(format.minus(format.one), "reckon", 3, mode, format.minus(x), x);
                }
            }
        }
    }

    /** In 5, 11: y, and the quotients of the least FLOAT by it in the MODES 0 to 4. */
    private static void quotientsOfTheLeast(Check check) {
        check.sentence("3: quotients that lie some 2^-22 behind a half, and behind a FLOAT");
        int[][] rows = {{0x07ff, 0x1001, 0x1001, 0x1001, 0x1000, 0x1000},
            {0x87ff, 0x9001, 0x9001, 0x9000, 0x9001, 0x9000},
            {0x0401, 0x13fe, 0x13fe, 0x13ff, 0x13fe, 0x13fe},
            {0x8401, 0x93fe, 0x93fe, 0x93fe, 0x93ff, 0x93fe}};
        Run run = new Run(check);
        for (int[] row : rows) {
            for (int mode = 0; mode <= 4; mode++) {
                run.answers(row[1 + mode], "reckon", 3, mode, 0x0001, row[0]);
            }
        }
    }

    private static void refused(Check check) {
        check.sentence("3: wrong numbers are refused, beside NaN and infinite ones too");
        for (Reference format : Reference.all()) {
            Run run = new Run(check, format);
            for (int x : new int[] {0, format.infinity, format.nan, format.size - 1}) {
                run.refuses("reckon", 0, 0, x, format.size);
                run.refuses("reckon", 2, 0, x, -1);
                run.refuses("reckon", 1, 0, format.size, x);
                run.refuses("reckon", 3, 0, -1, x);
                run.refuses("reckon", 4, 0, x, x);
                run.refuses("reckon", -1, 0, x, x);
                run.refuses("reckon", 0, 5, x, x);
                run.refuses("reckon", 0, -1, x, x);
            }
            run.isIn(format);
        }
    }
}
