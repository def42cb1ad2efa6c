/** The edges that the first part of "Terms" names: FORMATs, FLOATs and NaN. */
public final class EdgeTermsTest {
    private static final int[] FAR = {0, -1, -2, 34, 35, 43, Integer.MIN_VALUE, Integer.MAX_VALUE};

    public static void main(String[] args) {
        Check check = new Check();
        bitsOfExponent(check);
        bitsOfSignificand(check);
        leastAndGreatestFloat(check);
        fields(check);
        subnormalsMeetNormals(check);
        greatestFinite(check);
        allNanAreOne(check);
        nanIsAnsweredInOneForm(check);
        withoutFractionItIsInfinite(check);
        check.end();
    }

    private static void bitsOfExponent(Check check) {
        check.sentence("A FORMAT has e bits of exponent, 2 .. 5");
        for (int s = 2; s <= 11; s++) {
            Run run = new Run(check);
            run.answers(2 + s, "format", 2, s);
            run.answers(5 + s, "format", 5, s);
            run.refuses("format", 1, s);
            run.refuses("format", 6, s);
            run.takes("from", 2, s, 0, 0);
            run.takes("from", 5, s, 0, 0);
            run.refuses("from", 1, s, 0, 0);
            run.refuses("from", 6, s, 0, 0);
            for (int e : FAR) {
                run.refuses("format", e, s);
                run.refuses("from", e, s, 0, 0);
            }
        }
    }

    private static void bitsOfSignificand(Check check) {
        check.sentence("and s of significand with the hidden one, 2 .. 11");
        for (int e = 2; e <= 5; e++) {
            Run run = new Run(check);
            run.answers(e + 2, "format", e, 2);
            run.answers(e + 11, "format", e, 11);
            run.refuses("format", e, 1);
            run.refuses("format", e, 12);
            run.takes("from", e, 2, 0, 0);
            run.takes("from", e, 11, 0, 0);
            run.refuses("from", e, 1, 0, 0);
            run.refuses("from", e, 12, 0, 0);
            for (int s : FAR) {
                run.refuses("format", e, s);
                run.refuses("from", e, s, 0, 0);
            }
        }
    }

    private static void leastAndGreatestFloat(Check check) {
        check.sentence("A FLOAT of it is a number 0 .. 2^(e + s) - 1");
        for (Reference format : Reference.all()) {
            for (int x : new int[] {0, format.size - 1}) {
                Run run = new Run(check, format);
                run.takes("reckon", 0, 0, x, 0);
                run.takes("reckon", 0, 0, 0, x);
                run.takes("change", 0, 0, x);
                run.takes("least", x, 0, 0);
                run.takes("least", 0, x, 0);
                run.takes("compare", 0, x, 0);
                run.takes("compare", 0, 0, x);
                run.takes("is", 0, x);
                run.takes("from", format.e, format.s, 0, x);
                run.takes("toWhole", 0, x, 32, 1);
            }
            for (int x : new int[] {-1, format.size, 2 * format.size, Integer.MIN_VALUE, Integer.MAX_VALUE}) {
                Run run = new Run(check, format);
                run.refuses("reckon", 0, 0, x, 0);
                run.refuses("reckon", 0, 0, 0, x);
                run.refuses("change", 0, 0, x);
                run.refuses("least", x, 0, 0);
                run.refuses("least", 0, x, 0);
                run.refuses("compare", 0, x, 0);
                run.refuses("compare", 0, 0, x);
                run.refuses("is", 0, x);
                run.refuses("from", format.e, format.s, 0, x);
                run.refuses("toWhole", 0, x, 32, 1);
            }
        }
    }

    private static void fields(Check check) {
        check.sentence("the sign, e bits of exponent, s - 1 of fraction, from the highest bit on");
        for (int e = 2; e <= 5; e++) {
            for (int s = 2; s <= 11; s++) {
                int fraction = s - 1;
                int one = ((1 << (e - 1)) - 1) << fraction;
                int two = (1 << (e - 1)) << fraction;
                int three = two | (1 << (fraction - 1));
                int sign = 1 << (e + s - 1);
                Run run = new Run(check, e, s);
                run.answers(one, "ofWhole", 0, 1, 8, 1);
                run.answers(two, "ofWhole", 0, 2, 8, 1);
                run.answers(three, "ofWhole", 0, 3, 8, 1);
                run.answers(sign | one, "ofWhole", 0, -1, 8, 1);
                run.answers(sign | three, "ofWhole", 0, -3, 8, 1);
                run.answers(1, "toWhole", 0, one, 8, 1);
                run.answers(2, "toWhole", 0, two, 8, 1);
                run.answers(3, "toWhole", 0, three, 8, 1);
                run.answers(253, "toWhole", 0, sign | three, 8, 1);
            }
        }
    }

    private static void subnormalsMeetNormals(Check check) {
        check.sentence("the same: without an exponent there is no hidden one, and the same last place");
        for (Reference format : Reference.all()) {
            int normal = format.leastNormal;
            Run run = new Run(check, format);
            run.answers(normal, "reckon", 0, 4, normal - 1, 1);
            run.answers(normal + 1, "reckon", 0, 4, normal, 1);
            run.answers(normal - 1, "reckon", 1, 4, normal, 1);
            run.answers(2 * normal, "reckon", 0, 4, normal, normal);
            run.answers(2 * normal - 1, "reckon", 0, 4, normal, normal - 1);
            run.answers(format.minus(normal), "reckon", 1, 4, format.minus(normal - 1), 1);
            // The least normal is 2^(1 - bias): 2^(bias - 1) times it is 1.
            run.answers(format.one, "reckon", 2, 4, normal, format.power(format.bias - 1));
            run.answers(format.power(2 - format.s), "reckon", 2, 4, 1, format.power(format.bias));
        }
    }

    private static void greatestFinite(Check check) {
        check.sentence("the same: the greatest has an exponent of ones but the last, and a fraction of ones");
        for (Reference format : Reference.all()) {
            // It is 2^(bias + 1) - 2^(bias + 1 - s).
            int over = 1 << (format.bias + 1);
            int below = format.bias + 1 >= format.s ? over - (1 << (format.bias + 1 - format.s)) : over - 1;
            Run run = new Run(check, format);
            run.answers(below, "toWhole", 4, format.greatest, 32, 0);
            run.answers(-below, "toWhole", 4, format.minus(format.greatest), 32, 1);
            run.answers(0, "toWhole", 4, format.infinity, 32, 0);
        }
    }

    private static void allNanAreOne(Check check) {
        check.sentence("All NaN (all ones in the exponent, a fraction that is not 0) are one");
        for (Reference format : Reference.all()) {
            for (int fraction = 1; fraction < format.leastNormal; fraction++) {
                int x = format.infinity + fraction;
                int y = format.minus(x);
                Run run = new Run(check, format);
                run.answers(1, "is", 4, x);
                run.answers(1, "is", 4, y);
                run.answers(0, "is", 3, x);
                run.answers(1, "compare", 3, x, y);
                run.answers(1, "compare", 3, y, format.nan);
                run.answers(0, "compare", 2, x, x);
                run.answers(0, "toWhole", 0, y, 32, 1);
            }
        }
    }

    private static void nanIsAnsweredInOneForm(Check check) {
        check.sentence("it is answered with sign 0 and the highest bit of the fraction alone");
        for (Reference format : Reference.all()) {
            int due = ((1 << (format.e + 1)) - 1) << (format.s - 2);
            for (int fraction = 1; fraction < format.leastNormal; fraction++) {
                Run run = new Run(check, format);
                everyAnswerIs(run, format, due, format.infinity + fraction);
                everyAnswerIs(run, format, due, format.minus(format.infinity + fraction));
            }
        }
    }

    private static void everyAnswerIs(Run run, Reference format, int due, int nan) {
        for (int kind = 0; kind < 4; kind++) {
            run.answers(due, "reckon", kind, 0, nan, format.one);
            run.answers(due, "reckon", kind, 3, 0, nan);
            run.answers(due, "reckon", kind, 2, nan, format.infinity);
            run.answers(due, "reckon", kind, 4, nan, nan);
            run.answers(due, "change", kind, 1, nan);
        }
        run.answers(due, "least", nan, nan, 0);
        run.answers(due, "least", nan, format.sign - 1, 1);
        run.answers(due, "from", format.e, format.s, 0, nan);
    }

    private static void withoutFractionItIsInfinite(Check check) {
        check.sentence("the same: all ones in the exponent and a fraction of 0 are no NaN");
        for (Reference format : Reference.all()) {
            for (int x : new int[] {format.infinity, format.minus(format.infinity)}) {
                Run run = new Run(check, format);
                run.answers(0, "is", 4, x);
                run.answers(1, "is", 3, x);
                run.answers(1, "compare", 2, x, x);
                run.answers(x, "reckon", 0, 0, x, format.one);
                run.answers(x, "least", x, format.nan, 0);
            }
        }
    }
}
