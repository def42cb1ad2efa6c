/** The edges of "beyond the greatest", for every call that can answer what is beyond it. */
public final class EdgeBeyondTest {
    private static final String SENTENCE =
        "What is beyond the greatest after rounding as if there were no end is infinite, or the greatest: ";
    private static final int[] LARGEST = {5, 11};

    public static void main(String[] args) {
        Check check = new Check();
        Reference[] formats = Reference.all();
        justBeyondByASum(check, formats);
        farBeyondByASum(check, formats);
        byAProduct(check, formats);
        byAQuotient(check, formats);
        byAWholeNumber(check, formats);
        fromAnotherFormat(check, formats);
        ofAWholeNumber(check, formats);
        infiniteOnesAreNotBeyond(check, formats);
        check.end();
    }

    /** What is due above 0 in each MODE: infinite, but the greatest if rounded down or towards 0. */
    private static int above(Reference format, int mode) {
        return mode >= 3 ? format.greatest : format.infinity;
    }

    private static int below(Reference format, int mode) {
        return format.minus(mode == 2 || mode == 4 ? format.greatest : format.infinity);
    }

    private static void justBeyondByASum(Check check, Reference[] formats) {
        check.sentence(SENTENCE + "within a half of the last place, at the half, and behind it");
        for (Reference format : formats) {
            int half = format.power(format.bias - format.s);
            int[] atTheHalf = {format.infinity, format.infinity, format.infinity, format.greatest, format.greatest};
            int[] within = {format.greatest, format.greatest, format.infinity, format.greatest, format.greatest};
            Run run = new Run(check, format);
            for (int mode = 0; mode <= 4; mode++) {
                run.answers(atTheHalf[mode], "reckon", 0, mode, format.greatest, half);
                run.answers(atTheHalf[mode], "reckon", 0, mode, half + 1, format.greatest);
                if (half > 1) {
                    run.answers(within[mode], "reckon", 0, mode, format.greatest, half - 1);
                    run.answers(within[mode], "reckon", 0, mode, format.greatest, 1);
                }
                run.answers(below(format, mode), "reckon", 1, mode, format.minus(format.greatest), half);
            }
        }
    }

    private static void farBeyondByASum(Check check, Reference[] formats) {
        check.sentence(SENTENCE + "sums and differences");
        for (Reference format : formats) {
            int least = format.minus(format.greatest);
            Run run = new Run(check, format);
            for (int mode = 0; mode <= 4; mode++) {
                run.answers(above(format, mode), "reckon", 0, mode, format.greatest, format.greatest);
                run.answers(above(format, mode), "reckon", 1, mode, format.greatest, least);
                run.answers(below(format, mode), "reckon", 0, mode, least, least);
                run.answers(below(format, mode), "reckon", 1, mode, least, format.greatest);
            }
        }
    }

    private static void byAProduct(Check check, Reference[] formats) {
        check.sentence(SENTENCE + "products");
        for (Reference format : formats) {
            int top = format.power(format.bias);
            Run run = new Run(check, format);
            for (int mode = 0; mode <= 4; mode++) {
                run.answers(above(format, mode), "reckon", 2, mode, format.greatest, format.greatest);
                run.answers(below(format, mode), "reckon", 2, mode, format.minus(format.greatest), format.greatest);
                // Exactly the power of two behind the greatest.
                run.answers(above(format, mode), "reckon", 2, mode, top, format.power(1));
                run.answers(below(format, mode), "reckon", 2, mode, top, format.minus(format.power(1)));
            }
        }
    }

    private static void byAQuotient(Check check, Reference[] formats) {
        check.sentence(SENTENCE + "quotients");
        for (Reference format : formats) {
            int top = format.power(format.bias);
            Run run = new Run(check, format);
            for (int mode = 0; mode <= 4; mode++) {
                run.answers(above(format, mode), "reckon", 3, mode, format.greatest, 1);
                run.answers(below(format, mode), "reckon", 3, mode, format.greatest, format.minus(1));
                run.answers(above(format, mode), "reckon", 3, mode, top, format.power(-1));
                run.answers(below(format, mode), "reckon", 3, mode, format.minus(top), format.power(-1));
            }
        }
    }

    /** The greatest is no whole number where the significand is longer than the exponent reaches. */
    private static void byAWholeNumber(Check check, Reference[] formats) {
        check.sentence(SENTENCE + "whole numbers");
        for (Reference format : formats) {
            boolean whole = format.s <= format.bias + 1;
            int below = whole ? format.greatest : format.greatest - onesBehindThePoint(format);
            int above = whole ? format.greatest : format.infinity;
            int[] due = {above, above, above, below, below};
            Run run = new Run(check, format);
            for (int mode = 0; mode <= 4; mode++) {
                int mirrored = mode == 2 || mode == 3 ? 5 - mode : mode;
                run.answers(due[mode], "change", 1, mode, format.greatest);
                run.answers(format.minus(due[mode]), "change", 1, mirrored, format.minus(format.greatest));
            }
        }
    }

    private static int onesBehindThePoint(Reference format) {
        return (1 << (format.s - 1 - format.bias)) - 1;
    }

    private static void fromAnotherFormat(Check check, Reference[] formats) {
        check.sentence(SENTENCE + "FLOATs of another FORMAT");
        Reference largest = new Reference(LARGEST[0], LARGEST[1]);
        for (Reference format : formats) {
            if (format.e == largest.e && format.s == largest.s) {
                continue;
            }
            int x = largest.greatest;
            Run run = new Run(check, format);
            for (int mode = 0; mode <= 4; mode++) {
                run.answers(above(format, mode), "from", largest.e, largest.s, mode, x);
                run.answers(below(format, mode), "from", largest.e, largest.s, mode, largest.minus(x));
            }
        }
    }

    private static void ofAWholeNumber(Check check, Reference[] formats) {
        check.sentence(SENTENCE + "FLOATs of whole numbers");
        for (Reference format : formats) {
            int over = 1 << (format.bias + 1);
            Run run = new Run(check, format);
            for (int mode = 0; mode <= 4; mode++) {
                run.answers(above(format, mode), "ofWhole", mode, over, 32, 1);
                run.answers(above(format, mode), "ofWhole", mode, -1, 32, 0);
                run.answers(below(format, mode), "ofWhole", mode, -over, 32, 1);
                run.answers(below(format, mode), "ofWhole", mode, Integer.MIN_VALUE, 32, 1);
                if (format.s < format.bias) {
                    int half = over - (1 << (format.bias - format.s));
                    run.answers(above(format, mode), "ofWhole", mode, half, 32, 1);
                    int within = mode == 2 ? format.infinity : format.greatest;
                    run.answers(within, "ofWhole", mode, half - 1, 32, 1);
                }
            }
        }
    }

    private static void infiniteOnesAreNotBeyond(Check check, Reference[] formats) {
        check.sentence("the same: what is infinite before rounding stays so in every MODE");
        for (Reference format : formats) {
            int least = format.minus(format.infinity);
            Run run = new Run(check, format);
            for (int mode = 0; mode <= 4; mode++) {
                run.answers(format.infinity, "reckon", 0, mode, format.infinity, format.minus(format.greatest));
                run.answers(least, "reckon", 1, mode, format.greatest, format.infinity);
                run.answers(least, "reckon", 2, mode, least, 1);
                run.answers(format.infinity, "reckon", 3, mode, 1, 0);
                run.answers(format.infinity, "change", 0, mode, format.infinity);
                run.answers(least, "change", 1, mode, least);
                run.answers(least, "from", format.e, format.s, mode, least);
            }
        }
    }
}
