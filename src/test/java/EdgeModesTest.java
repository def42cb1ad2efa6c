/** The edges of the MODES: halves, their neighbours, and what is less than the least FLOAT. */
public final class EdgeModesTest {
    private static final int MINUS = 0x8000;

    public static void main(String[] args) {
        Check check = new Check();
        thereAreFive(check);
        nearestEven(check);
        nearestAway(check);
        up(check);
        down(check);
        towardsZero(check);
        exactOnesStay(check);
        overToTheNextPower(check);
        belowTheLeast(check);
        betweenSubnormals(check);
        roundedOnce(check);
        check.end();
    }

    private static void thereAreFive(Check check) {
        check.sentence("MODES: 0 .. 4");
        Run run = new Run(check);
        for (int mode = 0; mode <= 4; mode++) {
            everyCallWithAMode(run, mode, true);
        }
        for (int mode : new int[] {-1, 5, 6, 7, 8, Integer.MIN_VALUE, Integer.MAX_VALUE}) {
            everyCallWithAMode(run, mode, false);
        }
    }

    private static void everyCallWithAMode(Run run, int mode, boolean taken) {
        for (int kind = 0; kind < 4; kind++) {
            either(run, taken, "reckon", kind, mode, 0x3c00, 0x3c00);
            either(run, taken, "change", kind, mode, 0x3c00);
        }
        either(run, taken, "from", 3, 4, mode, 1);
        either(run, taken, "ofWhole", mode, 1, 8, 1);
        either(run, taken, "toWhole", mode, 0x3c00, 8, 1);
    }

    private static void either(Run run, boolean taken, String name, int... arguments) {
        if (taken) {
            run.takes(name, arguments);
        } else {
            run.refuses(name, arguments);
        }
    }

    private static void nearestEven(Check check) {
        check.sentence("0 to the nearest, of two the even one");
        halves(check, 0, 0);
        nextToAHalf(check, 0, 0);
    }

    private static void nearestAway(Check check) {
        check.sentence("1 to the nearest, of two the one away from 0");
        halves(check, 1, 1);
        nextToAHalf(check, 1, 1);
    }

    /** In every FORMAT 2 and its neighbour have a last place whose half is a FLOAT. */
    private static void halves(Check check, int mode, int stepOfEven) {
        for (Reference format : Reference.all()) {
            int even = format.power(1);
            int odd = even + 1;
            int half = format.power(1 - format.s);
            Run run = new Run(check, format);
            bothSigns(run, format, mode, even, half, even + stepOfEven);
            bothSigns(run, format, mode, odd, half, odd + 1);
        }
    }

    private static void bothSigns(Run run, Reference format, int mode, int x, int y, int due) {
        run.answers(due, "reckon", 0, mode, x, y);
        run.answers(due, "reckon", 1, mode, x, format.minus(y));
        run.answers(format.minus(due), "reckon", 0, mode, format.minus(x), format.minus(y));
        run.answers(format.minus(due), "reckon", 1, mode, format.minus(x), y);
    }

    /** From 5, 11 to 3, 4, where 1 and 9/8 are neighbours: 17/16 is the half, 1/1024 a step of 5, 11. */
    private static void nextToAHalf(Check check, int mode, int stepOfEven) {
        int half = 0x3c40;
        Run run = new Run(check, 3, 4);
        run.answers(24, "from", 5, 11, mode, half - 1);
        run.answers(24 + stepOfEven, "from", 5, 11, mode, half);
        run.answers(25, "from", 5, 11, mode, half + 1);
        run.answers(64 + 24, "from", 5, 11, mode, MINUS + half - 1);
        run.answers(64 + 24 + stepOfEven, "from", 5, 11, mode, MINUS + half);
        run.answers(64 + 25, "from", 5, 11, mode, MINUS + half + 1);
    }

    private static void up(Check check) {
        check.sentence("2 up");
        oneSided(check, 2, 1, 0);
    }

    private static void down(Check check) {
        check.sentence("3 down");
        oneSided(check, 3, 0, 1);
    }

    private static void towardsZero(Check check) {
        check.sentence("4 towards 0");
        oneSided(check, 4, 0, 0);
    }

    /** The steps away from 0 that what lies between two FLOATs takes, above 0 and below it. */
    private static void oneSided(Check check, int mode, int above, int below) {
        for (Reference format : Reference.all()) {
            int two = format.power(1);
            int half = format.power(1 - format.s);
            Run run = new Run(check, format);
            run.answers(two + above, "reckon", 0, mode, two, half);
            run.answers(two + 1 + above, "reckon", 0, mode, two + 1, half);
            run.answers(format.minus(two + below), "reckon", 1, mode, format.minus(two), half);
            run.answers(format.minus(two + 1 + below), "reckon", 1, mode, format.minus(two + 1), half);
        }
        for (int least : new int[] {0x3c01, 0x3c40, 0x3c7f}) {
            Run run = new Run(check, 3, 4);
            run.answers(24 + above, "from", 5, 11, mode, least);
            run.answers(64 + 24 + below, "from", 5, 11, mode, MINUS + least);
        }
    }

    private static void exactOnesStay(Check check) {
        check.sentence("MODES: a result that is a FLOAT is answered in every one of them");
        for (Reference format : Reference.all()) {
            int[] edges = {1, format.leastNormal - 1, format.leastNormal, format.one, format.greatest};
            for (int mode = 0; mode <= 4; mode++) {
                Run run = new Run(check, format);
                for (int x : edges) {
                    run.answers(x, "reckon", 0, mode, x, 0);
                    run.answers(format.minus(x), "reckon", 1, mode, 0, x);
                    run.answers(x, "reckon", 2, mode, x, format.one);
                    run.answers(format.minus(x), "reckon", 3, mode, x, format.minus(format.one));
                    run.answers(x, "from", format.e, format.s, mode, x);
                }
            }
        }
    }

    private static void overToTheNextPower(Check check) {
        check.sentence("MODES: rounding runs over to the next power of two, and from subnormal to normal");
        Run run = new Run(check, 3, 4);
        // Between 15/8 and 2, and between 7/32 and 1/4.
        run.answers(32, "from", 5, 11, 0, 0x3fc0);
        run.answers(31, "from", 5, 11, 0, 0x3fbf);
        run.answers(32, "from", 5, 11, 2, 0x3f81);
        run.answers(31, "from", 5, 11, 4, 0x3fff);
        run.answers(64 + 32, "from", 5, 11, 3, MINUS + 0x3f81);
        run.answers(8, "from", 5, 11, 0, 0x3380);
        run.answers(7, "from", 5, 11, 0, 0x337f);
        run.answers(8, "from", 5, 11, 2, 0x3301);
        run.answers(7, "from", 5, 11, 4, 0x33ff);
        run.answers(64 + 8, "from", 5, 11, 3, MINUS + 0x3301);
    }

    private static void belowTheLeast(Check check) {
        check.sentence("MODES: what is less than the least FLOAT becomes that or 0, with its sign");
        for (Reference format : Reference.all()) {
            int half = format.power(-1);
            int[] due = {0, 1, 1, 0, 0};
            int[] dueBelow = {0, 1, 0, 1, 0};
            Run run = new Run(check, format);
            for (int mode = 0; mode <= 4; mode++) {
                run.answers(due[mode], "reckon", 2, mode, 1, half);
                run.answers(format.minus(dueBelow[mode]), "reckon", 2, mode, format.minus(1), half);
                run.answers(due[mode], "reckon", 3, mode, 1, format.power(1));
                run.answers(format.minus(dueBelow[mode]), "reckon", 3, mode, 1, format.minus(format.power(1)));
            }
            run.answers(0, "reckon", 2, 0, 1, half - 1);
            run.answers(0, "reckon", 2, 1, 1, half - 1);
            run.answers(1, "reckon", 2, 0, 1, half + 1);
            run.answers(1, "reckon", 2, 1, 1, half + 1);
            run.answers(1, "reckon", 3, 2, 1, format.greatest);
            run.answers(format.minus(0), "reckon", 3, 2, format.minus(1), format.greatest);
            run.answers(format.minus(1), "reckon", 3, 3, format.minus(1), format.greatest);
        }
    }

    private static void betweenSubnormals(Check check) {
        check.sentence("MODES: halves of the last place of subnormals");
        for (Reference format : Reference.all()) {
            int half = format.power(-1);
            // 3/2 of the least FLOAT lies between 1 and 2 of it.
            int[] due = {2, 2, 2, 1, 1};
            int[] dueBelow = {2, 2, 1, 2, 1};
            Run run = new Run(check, format);
            for (int mode = 0; mode <= 4; mode++) {
                run.answers(due[mode], "reckon", 2, mode, 3, half);
                run.answers(format.minus(dueBelow[mode]), "reckon", 2, mode, 3, format.minus(half));
            }
        }
    }

    private static void roundedOnce(Check check) {
        check.sentence("MODES: one rounding of the exact result, and none before it");
        Run half = new Run(check, 5, 11);
        // Around 1 + 2^-11, the half between 1 and its neighbour.
        half.answers(0x3c01, "reckon", 0, 0, 0x3c00, 0x1001);
        half.answers(0x3c00, "reckon", 0, 0, 0x3c00, 0x0fff);
        half.answers(0x3c00, "reckon", 0, 1, 0x3c00, 0x0fff);
        // The greatest less the least, which is some 2^40 times less.
        half.answers(0x7bff, "reckon", 1, 0, 0x7bff, 0x0001);
        half.answers(0x7bfe, "reckon", 1, 3, 0x7bff, 0x0001);
        half.answers(0x7bfe, "reckon", 1, 4, 0x7bff, 0x0001);
        half.answers(0x7bff, "reckon", 1, 2, 0x7bff, 0x0001);
        // 2^-25 * (1 - 2^-20), which 11 places would make the half of the least.
        half.answers(0, "reckon", 2, 1, 0x0c01, 0x07fe);
        // Steps of 5, 11 beside 1/2 and 3/2 of the least of 3, 4, which 4 places would lose.
        Run few = new Run(check, 3, 4);
        few.answers(1, "from", 5, 11, 0, 0x2401);
        few.answers(0, "from", 5, 11, 1, 0x23ff);
        few.answers(1, "from", 5, 11, 0, 0x29ff);
        few.answers(1, "from", 5, 11, 1, 0x29ff);
    }
}
