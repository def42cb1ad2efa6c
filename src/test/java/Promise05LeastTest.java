/** Promise 5: the less and the greater one. */
public final class Promise05LeastTest {
    public static void main(String[] args) {
        Check check = new Check();
        for (int e = 2; e <= 5; e++) {
            for (int s = 2; s <= 11; s++) {
                asTheReference(check, new Reference(e, s));
            }
        }
        zerosAndNan(check);
        wrongOnes(check);
        check.end();
    }

    private static void asTheReference(Check check, Reference reference) {
        Fresh fresh = new Fresh(reference.e, reference.s);
        int[] samples = reference.samples(256);
        for (int x : samples) {
            for (int y : samples) {
                check.due(due(reference, x, y, false), fresh.next().least(x, y, false),
                    "least", reference.e, reference.s, x, y);
                check.due(due(reference, x, y, true), fresh.next().least(x, y, true),
                    "greatest", reference.e, reference.s, x, y);
            }
        }
    }

    private static int due(Reference reference, int x, int y, boolean greatest) {
        if (reference.isNan(x) && reference.isNan(y)) {
            return reference.nan;
        }
        if (reference.isNan(x) || reference.isNan(y)) {
            return reference.isNan(x) ? y : x;
        }
        double a = reference.number(x);
        double b = reference.number(y);
        return (greatest ? a > b : a < b) ? x : y;
    }

    private static void zerosAndNan(Check check) {
        FloatCircuits object = new FloatCircuits();
        for (int i = 0; i < 2; i++) {
            boolean greatest = i == 1;
            check.due(0x8000, object.least(0, 0x8000, greatest), "zeros of two signs", i);
            check.due(0, object.least(0x8000, 0, greatest), "zeros of two signs", i);
            check.due(0x8000, object.least(0x8000, 0x8000, greatest), "zeros of one sign", i);
            check.due(0xfc00, object.least(0x7c01, 0xfc00, greatest), "NaN and infinite", i);
            check.due(0x8000, object.least(0x8000, 0xffff, greatest), "zero and NaN", i);
            check.due(0x7e00, object.least(0x7c01, 0xffff, greatest), "two NaN", i);
        }
        check.due(0xfc00, object.least(0x7c00, 0xfc00, false), "infinite ones");
        check.due(0x7c00, object.least(0x7c00, 0xfc00, true), "infinite ones");
        check.due(0xc000, object.least(0xbc00, 0xc000, false), "-1 and -2");
        check.due(0xbc00, object.least(0xbc00, 0xc000, true), "-1 and -2");
    }

    private static void wrongOnes(Check check) {
        FloatCircuits object = new FloatCircuits();
        object.format(3, 4);
        check.refused("x too great", () -> object.least(128, 0, false));
        check.refused("x below 0", () -> object.least(-1, 0, true));
        check.refused("y too great", () -> object.least(0, 128, true));
        check.refused("y below 0", () -> object.least(0, Integer.MIN_VALUE, false));
        check.refused("y too great beside a NaN", () -> object.least(127, 65535, false));
        check.due(24, object.least(24, 32, false), "least in 3, 4 after refused calls");
    }
}
