/** The edges of promise 8: from. */
public final class EdgePromise08Test {
    public static void main(String[] args) {
        Check check = new Check();
        Reference[] formats = Reference.all();
        xIsOfTheOtherFormat(check, formats);
        thePresentFormatStays(check, formats);
        zerosAndInfiniteOnes(check, formats);
        nan(check, formats);
        intoALargerFormatAndBack(check, formats);
        tooSmall(check, formats);
        subnormalsBecomeNormal(check);
        refused(check);
        check.end();
    }

    private static void xIsOfTheOtherFormat(Check check, Reference[] formats) {
        check.sentence("8: x a FLOAT of the FORMAT e, s");
        for (Reference present : formats) {
            Run run = new Run(check, present);
            for (Reference other : formats) {
                run.takes("from", other.e, other.s, 0, other.size - 1);
                run.refuses("from", other.e, other.s, 0, other.size);
                run.refuses("from", other.e, other.s, 0, -1);
            }
        }
    }

    private static void thePresentFormatStays(Check check, Reference[] formats) {
        check.sentence("8: the FLOAT of the present one: it stays the present one");
        for (Reference present : formats) {
            Run run = new Run(check, present);
            for (Reference other : formats) {
                run.answers(present.one, "from", other.e, other.s, 0, other.one);
                run.answers(present.minus(present.power(1)), "from", other.e, other.s, 0, other.minus(other.power(1)));
            }
            run.isIn(present);
        }
    }

    private static void zerosAndInfiniteOnes(Check check, Reference[] formats) {
        check.sentence("8: zeros and infinite ones keep their sign in every MODE");
        for (Reference present : formats) {
            for (Reference other : formats) {
                Run run = new Run(check, present);
                for (int mode = 0; mode <= 4; mode++) {
                    run.answers(0, "from", other.e, other.s, mode, 0);
                    run.answers(present.sign, "from", other.e, other.s, mode, other.sign);
                    run.answers(present.infinity, "from", other.e, other.s, mode, other.infinity);
                    run.answers(present.minus(present.infinity), "from", other.e, other.s, mode,
                        other.minus(other.infinity));
                }
            }
        }
    }

    private static void nan(Check check, Reference[] formats) {
        check.sentence("8: NaN becomes the NaN of the present FORMAT");
        for (Reference present : formats) {
            for (Reference other : formats) {
                Run run = new Run(check, present);
                for (int x : new int[] {other.infinity + 1, other.nan, other.minus(other.nan), other.size - 1}) {
                    run.answers(present.nan, "from", other.e, other.s, 0, x);
                    run.answers(present.nan, "from", other.e, other.s, 3, x);
                }
            }
        }
    }

    private static void intoALargerFormatAndBack(Check check, Reference[] formats) {
        check.sentence("8: to which it rounds: into a FORMAT that has it, and back, it stays the same");
        for (Reference small : formats) {
            for (Reference large : formats) {
                if (large.e < small.e || large.s < small.s) {
                    continue;
                }
                Run there = new Run(check, large);
                Run back = new Run(check, small);
                for (int x : new int[] {1, small.leastNormal - 1, small.leastNormal, small.one, small.greatest}) {
                    int same = large.round(0, small.number(x));
                    for (int mode = 0; mode <= 4; mode++) {
                        there.answers(same, "from", small.e, small.s, mode, x);
                        back.answers(small.minus(x), "from", large.e, large.s, mode, large.minus(same));
                    }
                }
            }
        }
    }

    private static void tooSmall(Check check, Reference[] formats) {
        check.sentence("8: the least of 5, 11 is too small for every other FORMAT");
        for (Reference present : formats) {
            if (present.e == 5 && present.s == 11) {
                continue;
            }
            Run run = new Run(check, present);
            boolean half = present.e == 5 && present.s == 10;
            int[] due = {0, half ? 1 : 0, 1, 0, 0};
            int[] dueBelow = {0, half ? 1 : 0, 0, 1, 0};
            for (int mode = 0; mode <= 4; mode++) {
                run.answers(due[mode], "from", 5, 11, mode, 1);
                run.answers(present.minus(dueBelow[mode]), "from", 5, 11, mode, 0x8001);
            }
        }
    }

    private static void subnormalsBecomeNormal(Check check) {
        check.sentence("8: subnormals become normal, and normals subnormal");
        Run large = new Run(check);
        large.answers(0x2800, "from", 3, 4, 0, 1);
        large.answers(0x3300, "from", 3, 4, 0, 7);
        large.answers(0xb300, "from", 3, 4, 0, 71);
        Run small = new Run(check, 3, 4);
        small.answers(1, "from", 5, 11, 0, 0x2800);
        small.answers(7, "from", 5, 11, 0, 0x3300);
        small.answers(71, "from", 5, 11, 0, 0xb300);
    }

    private static void refused(Check check) {
        check.sentence("8: wrong numbers are refused, and the FORMAT stays");
        int[][] wrong = {{1, 4, 0, 0}, {6, 4, 0, 0}, {3, 1, 0, 0}, {3, 12, 0, 0}, {3, 4, -1, 0}, {3, 4, 5, 0},
            {3, 4, 0, -1}, {3, 4, 0, 128}, {1, 1, 0, 0}, {2, 2, 0, 16}, {5, 11, 0, 65536}, {3, 4, 5, 127},
            {32 + 3, 4, 0, 0}, {3, 32 + 4, 0, 0}, {-29, 4, 0, 0}, {3, -28, 0, 0}};
        for (int[] row : wrong) {
            Run run = new Run(check, 4, 5);
            run.refuses("from", row);
            run.isIn(new Reference(4, 5));
        }
    }
}
