/** The edges of the sign of a zero. */
public final class EdgeZeroSumTest {
    private static final int DOWN = 3;

    public static void main(String[] args) {
        Check check = new Check();
        ofOpposites(check);
        ofZerosOfTwoSigns(check);
        ofZerosOfOneSign(check);
        besideANumber(check);
        check.end();
    }

    private static int zero(Reference format, int mode) {
        return mode == DOWN ? format.sign : 0;
    }

    private static void ofOpposites(Check check) {
        check.sentence("as IEEE 754 has it; the sign of a zero that a sum gives, too: of x and its opposite");
        for (Reference format : Reference.all()) {
            for (int mode = 0; mode <= 4; mode++) {
                Run run = new Run(check, format);
                for (int x : new int[] {1, format.leastNormal - 1, format.leastNormal, format.one, format.greatest}) {
                    run.answers(zero(format, mode), "reckon", 0, mode, x, format.minus(x));
                    run.answers(zero(format, mode), "reckon", 0, mode, format.minus(x), x);
                    run.answers(zero(format, mode), "reckon", 1, mode, x, x);
                    run.answers(zero(format, mode), "reckon", 1, mode, format.minus(x), format.minus(x));
                }
            }
        }
    }

    private static void ofZerosOfTwoSigns(Check check) {
        check.sentence("the same, of zeros of two signs");
        for (Reference format : Reference.all()) {
            Run run = new Run(check, format);
            for (int mode = 0; mode <= 4; mode++) {
                run.answers(zero(format, mode), "reckon", 0, mode, 0, format.sign);
                run.answers(zero(format, mode), "reckon", 0, mode, format.sign, 0);
                run.answers(zero(format, mode), "reckon", 1, mode, 0, 0);
                run.answers(zero(format, mode), "reckon", 1, mode, format.sign, format.sign);
            }
        }
    }

    private static void ofZerosOfOneSign(Check check) {
        check.sentence("the same, of zeros of one sign: it stays");
        for (Reference format : Reference.all()) {
            Run run = new Run(check, format);
            for (int mode = 0; mode <= 4; mode++) {
                run.answers(0, "reckon", 0, mode, 0, 0);
                run.answers(0, "reckon", 1, mode, 0, format.sign);
                run.answers(format.sign, "reckon", 0, mode, format.sign, format.sign);
                run.answers(format.sign, "reckon", 1, mode, format.sign, 0);
            }
        }
    }

    private static void besideANumber(Check check) {
        check.sentence("the same, where only one is zero: the other one is the sum");
        for (Reference format : Reference.all()) {
            Run run = new Run(check, format);
            for (int mode = 0; mode <= 4; mode++) {
                for (int zero : new int[] {0, format.sign}) {
                    run.answers(1, "reckon", 0, mode, 1, zero);
                    run.answers(format.minus(1), "reckon", 0, mode, zero, format.minus(1));
                    run.answers(format.minus(1), "reckon", 1, mode, zero, 1);
                }
            }
        }
    }
}
