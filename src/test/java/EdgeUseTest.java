/** The edge that "What it is" names: how long an object is used. */
public final class EdgeUseTest {
    private static final int MOST_CALLS = 512;

    public static void main(String[] args) {
        Check check = new Check();
        theLastCallIsAsDue(check);
        refusedCallsUseNothingUp(check);
        formatsUseNothingUp(check);
        check.end();
    }

    private static void theLastCallIsAsDue(Check check) {
        check.sentence("An object is used for at most 512 calls after it has been made");
        Run run = new Run(check);
        for (int call = 1; call <= MOST_CALLS; call++) {
            run.answers(0x3555, "reckon", 3, 0, 0x3c00, 0x4200);
        }
    }

    private static void refusedCallsUseNothingUp(Check check) {
        check.sentence("the same, where all calls but the last are refused");
        Run run = new Run(check);
        for (int call = 1; call < MOST_CALLS; call++) {
            run.refuses("reckon", 0, 5, 0, 0);
        }
        run.answers(0x3da8, "change", 0, 0, 0x4000);
    }

    private static void formatsUseNothingUp(Check check) {
        check.sentence("the same, where every second call sets the FORMAT");
        Run run = new Run(check);
        Reference[] formats = Reference.all();
        for (int call = 1; call <= MOST_CALLS; call += 2) {
            Reference format = formats[call % formats.length];
            run.answers(format.e + format.s, "format", format.e, format.s);
            run.answers(format.one, "ofWhole", 0, 1, 32, 1);
        }
    }
}
