/** The edges of promises 1 and 2: a new object, and format. */
public final class EdgePromise01To02Test {
    public static void main(String[] args) {
        Check check = new Check();
        aNewObject(check);
        objectsAreApart(check);
        thatIsTheFormat(check);
        howManyBits(check);
        refused(check);
        check.end();
    }

    private static void aNewObject(Check check) {
        check.sentence("1: FloatCircuits(): The FORMAT is 5, 11");
        new Run(check).isIn(new Reference(5, 11));
        new Run(check).answers(0x7e00, "change", 3, 0, 0xffff);
        new Run(check).refuses("change", 3, 0, 0x10000);
        new Run(check).answers(0x7bff, "reckon", 0, 4, 0x7bff, 0x7bff);
        new Run(check).answers(0x0001, "reckon", 1, 4, 0x0400, 0x03ff);
    }

    private static void objectsAreApart(Check check) {
        check.sentence("1: the same, after another object was set to another FORMAT");
        Run first = new Run(check, 2, 2);
        Run second = new Run(check);
        second.isIn(new Reference(5, 11));
        first.isIn(new Reference(2, 2));
        second.answers(7, "format", 3, 4);
        first.isIn(new Reference(2, 2));
    }

    private static void thatIsTheFormat(Check check) {
        check.sentence("2: That is the FORMAT, from any to any other and to itself");
        for (Reference before : Reference.all()) {
            Run run = new Run(check, before);
            for (Reference after : Reference.all()) {
                run.answers(after.e + after.s, "format", after.e, after.s);
                run.isIn(after);
                run.answers(after.e + after.s, "format", after.e, after.s);
                run.answers(before.e + before.s, "format", before.e, before.s);
            }
            run.isIn(before);
        }
    }

    private static void howManyBits(Check check) {
        check.sentence("2: Answers how many bits a FLOAT has, 4 at least and 16 at most");
        Run run = new Run(check);
        run.answers(4, "format", 2, 2);
        run.answers(13, "format", 2, 11);
        run.answers(7, "format", 5, 2);
        run.answers(16, "format", 5, 11);
    }

    private static void refused(Check check) {
        check.sentence("2: e or s out of range is refused, and the FORMAT stays");
        for (int[] pair : new int[][] {{1, 4}, {6, 4}, {3, 1}, {3, 12}, {1, 1}, {6, 12}, {11, 5}, {4, 0}, {0, 4}}) {
            Run run = new Run(check, 4, 3);
            run.refuses("format", pair);
            run.isIn(new Reference(4, 3));
        }
    }
}
