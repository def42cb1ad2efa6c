/**
 * Binary floating point of small formats, reckoned by circuits.
 *
 * <p>A word of wires is a long. What flows along the wires meets gates alone (and, or, xor, not);
 * a shift by a number that the FORMAT or the circuit fixes is no gate but the way wires are laid.
 */
public final class FloatCircuits {
    private static final int NEAREST_EVEN = 0;
    private static final int NEAREST_AWAY = 1;
    private static final int UP = 2;
    private static final int DOWN = 3;
    private static final int TOWARDS_ZERO = 4;

    private Format present;

    public FloatCircuits() {
        present = new Format(5, 11);
    }

    public int format(int e, int s) throws IllegalArgumentException {
        require(isFormat(e, s));
        present = new Format(e, s);
        return present.width;
    }

    public int reckon(int kind, int mode, int x, int y) throws IllegalArgumentException {
        require(isWithin(kind, 0, 3) && isMode(mode) && present.holds(x) && present.holds(y));
        Value left = present.unpack(x);
        Value right = present.unpack(y);
        switch (kind) {
            case 0:
                return present.pack(mode, Reckoner.sum(mode, left, right));
            case 1:
                return present.pack(mode, Reckoner.sum(mode, left, right.opposite()));
            case 2:
                return present.pack(mode, Reckoner.product(left, right));
            default:
                return present.pack(mode, Reckoner.quotient(left, right));
        }
    }

    public int change(int kind, int mode, int x) throws IllegalArgumentException {
        require(isWithin(kind, 0, 3) && isMode(mode) && present.holds(x));
        Value value = present.unpack(x);
        switch (kind) {
            case 0:
                return present.pack(mode, Reckoner.root(value));
            case 1:
                return present.pack(mode, Reckoner.whole(mode, value));
            case 2:
                return value.nan ? present.nan : x & ~present.signBit;
            default:
                return value.nan ? present.nan : x ^ present.signBit;
        }
    }

    public int least(int x, int y, boolean greatest) throws IllegalArgumentException {
        require(present.holds(x) && present.holds(y));
        if (present.isNan(x)) {
            return present.isNan(y) ? present.nan : y;
        }
        if (present.isNan(y)) {
            return x;
        }
        boolean first = greatest ? present.isBelow(y, x) : present.isBelow(x, y);
        return first ? x : y;
    }

    public boolean compare(int kind, int x, int y) throws IllegalArgumentException {
        require(isWithin(kind, 0, 3) && present.holds(x) && present.holds(y));
        if (present.isNan(x) || present.isNan(y)) {
            return kind == 3 && present.isNan(x) && present.isNan(y);
        }
        switch (kind) {
            case 0:
                return present.isBelow(x, y);
            case 1:
                return !present.isBelow(y, x);
            case 2:
                return !present.isBelow(x, y) && !present.isBelow(y, x);
            default:
                return Gates.any(x ^ y) == 0;
        }
    }

    public boolean is(int kind, int x) throws IllegalArgumentException {
        require(isWithin(kind, 0, 6) && present.holds(x));
        Value value = present.unpack(x);
        boolean finite = !value.nan && !value.infinite;
        boolean hidden = present.hasHiddenOne(x);
        switch (kind) {
            case 0:
                return finite && hidden;
            case 1:
                return finite && !hidden && !value.isZero();
            case 2:
                return value.isZero();
            case 3:
                return value.infinite;
            case 4:
                return value.nan;
            case 5:
                return !value.nan && value.sign == 1;
            default:
                return !value.nan && value.sign == 0;
        }
    }

    public int from(int e, int s, int mode, int x) throws IllegalArgumentException {
        require(isFormat(e, s) && isMode(mode));
        Format origin = new Format(e, s);
        require(origin.holds(x));
        return present.pack(mode, origin.unpack(x));
    }

    public int ofWhole(int mode, int v, int w, boolean signed) throws IllegalArgumentException {
        require(isMode(mode) && isWithin(w, 1, 32));
        long word = v & Gates.ones(w);
        long sign = signed ? word >>> (w - 1) : 0;
        long extended = word | (Gates.fan(sign) & ~Gates.ones(w));
        return present.pack(mode, Value.finite(sign, 0, Gates.negateIf(sign, extended)));
    }

    public int toWhole(int mode, int x, int m, boolean signed) throws IllegalArgumentException {
        require(isMode(mode) && present.holds(x) && isWithin(m, 1, 32));
        Value whole = Reckoner.whole(mode, present.unpack(x));
        if (whole.nan || whole.infinite || !isWithinBits(whole, m, signed)) {
            return 0;
        }
        return (int) (Gates.negateIf(whole.sign, whole.magnitude) & Gates.ones(m));
    }

    private static boolean isWithinBits(Value whole, int m, boolean signed) {
        long most = Gates.ones(signed ? m - 1 : m);
        if (whole.sign == 1) {
            // Two's complement has one number more below 0 than above it.
            most = signed ? 1L << (m - 1) : 0;
        }
        return Gates.below(most, whole.magnitude) == 0;
    }

    private static void require(boolean met) {
        if (!met) {
            throw new IllegalArgumentException();
        }
    }

    private static boolean isWithin(int number, int low, int high) {
        return low <= number && number <= high;
    }

    private static boolean isMode(int mode) {
        return isWithin(mode, NEAREST_EVEN, TOWARDS_ZERO);
    }

    private static boolean isFormat(int e, int s) {
        return isWithin(e, 2, 5) && isWithin(s, 2, Format.MOST_SIGNIFICAND);
    }

    /** The number that a FLOAT stands for: magnitude * 2^exponent with a sign, or none such. */
    private static final class Value {
        final boolean nan;
        final boolean infinite;
        final long sign;
        final long exponent;
        final long magnitude;

        private Value(boolean nan, boolean infinite, long sign, long exponent, long magnitude) {
            this.nan = nan;
            this.infinite = infinite;
            this.sign = sign;
            this.exponent = exponent;
            this.magnitude = magnitude;
        }

        static Value notANumber() {
            return new Value(true, false, 0, 0, 0);
        }

        static Value infinity(long sign) {
            return new Value(false, true, sign, 0, 0);
        }

        static Value finite(long sign, long exponent, long magnitude) {
            return new Value(false, false, sign, exponent, magnitude);
        }

        Value opposite() {
            return new Value(nan, infinite, sign ^ 1, exponent, magnitude);
        }

        boolean isZero() {
            return !nan && !infinite && Gates.any(magnitude) == 0;
        }
    }

    /** How the wires of a FLOAT are laid in one FORMAT. */
    private static final class Format {
        static final int MOST_SIGNIFICAND = 11;

        final int width;
        final int fractionBits;
        final int signBit;
        final int infinity;
        final int nan;
        /** The exponent of the last place of a subnormal: no FLOAT has a finer one. */
        final int finest;

        Format(int e, int s) {
            width = e + s;
            fractionBits = s - 1;
            signBit = 1 << (width - 1);
            infinity = ((1 << e) - 1) << fractionBits;
            nan = infinity | (1 << (fractionBits - 1));
            int bias = (1 << (e - 1)) - 1;
            finest = 1 - bias - fractionBits;
        }

        boolean holds(int x) {
            return isWithin(x, 0, (1 << width) - 1);
        }

        boolean isNan(int x) {
            return Gates.below(infinity, unsigned(x)) == 1;
        }

        boolean hasHiddenOne(int x) {
            return Gates.any(unsigned(x) >>> fractionBits) == 1;
        }

        /** Whether x stands for less than y; neither is NaN. */
        boolean isBelow(int x, int y) {
            return Gates.below(rank(x), rank(y)) == 1;
        }

        Value unpack(int x) {
            long sign = signOf(x);
            if (isNan(x)) {
                return Value.notANumber();
            }
            if (Gates.any(unsigned(x) ^ infinity) == 0) {
                return Value.infinity(sign);
            }
            long field = unsigned(x) >>> fractionBits;
            long hidden = Gates.any(field);
            long fraction = x & Gates.ones(fractionBits);
            // A subnormal has the exponent of field 1, so a field of 0 must not count one down.
            long steps = Gates.difference(field, hidden);
            return Value.finite(sign, Gates.sum(finest, steps), fraction | (hidden << fractionBits));
        }

        int pack(int mode, Value value) {
            if (value.nan) {
                return nan;
            }
            if (value.infinite) {
                return signed(value.sign, infinity);
            }
            if (value.isZero()) {
                return signed(value.sign, 0);
            }
            long packed = packMagnitude(mode, value);
            if (Gates.below(packed, infinity) == 1) {
                return signed(value.sign, packed);
            }
            boolean endless = Rounder.isEndless(mode, value.sign);
            return signed(value.sign, endless ? infinity : infinity - 1);
        }

        private long packMagnitude(int mode, Value value) {
            long top = Gates.sum(value.exponent, Gates.top(value.magnitude));
            long wanted = Gates.difference(top, fractionBits);
            long last = Gates.choose(Gates.below(wanted, finest), finest, wanted);
            long kept = Rounder.round(mode, value, last);
            // The hidden one, and the carry of a rounding to the next power of two, count the
            // exponent up where they run over into its field.
            return Gates.sum(Gates.difference(last, finest) << fractionBits, kept);
        }

        private long unsigned(int x) {
            return x & (signBit - 1);
        }

        private long signOf(int x) {
            return (x >>> (width - 1)) & 1;
        }

        private int signed(long sign, long packed) {
            return (int) (packed | (sign << (width - 1)));
        }

        /** FLOATs without their sign lie in the order of what they stand for. */
        private long rank(int x) {
            return Gates.negateIf(signOf(x), unsigned(x));
        }
    }

    /** The operations; their answers carry enough places, and a mark for the rest, to be rounded. */
    private static final class Reckoner {
        /**
         * Even, for the root halves it; and even 1 over the greatest significand, or the root of 1,
         * then has more places than the longest significand and its half.
         */
        private static final int MORE_PLACES = 24;

        static Value sum(int mode, Value x, Value y) {
            if (x.nan || y.nan) {
                return Value.notANumber();
            }
            if (x.infinite && y.infinite && x.sign != y.sign) {
                return Value.notANumber();
            }
            if (x.infinite || y.infinite) {
                return x.infinite ? x : y;
            }
            long last = Gates.choose(Gates.below(x.exponent, y.exponent), x.exponent, y.exponent);
            long total = Gates.sum(signedAt(last, x), signedAt(last, y));
            if (Gates.any(total) == 0) {
                return Value.finite(signOfZeroSum(mode, x.sign, y.sign), 0, 0);
            }
            long sign = Gates.isNegative(total);
            return Value.finite(sign, last, Gates.negateIf(sign, total));
        }

        private static long signedAt(long last, Value x) {
            long places = Gates.difference(x.exponent, last);
            return Gates.negateIf(x.sign, Gates.shiftLeft(x.magnitude, places));
        }

        private static long signOfZeroSum(int mode, long x, long y) {
            return mode == DOWN ? x | y : x & y;
        }

        static Value product(Value x, Value y) {
            if (x.nan || y.nan) {
                return Value.notANumber();
            }
            long sign = x.sign ^ y.sign;
            if (x.infinite || y.infinite) {
                return x.isZero() || y.isZero() ? Value.notANumber() : Value.infinity(sign);
            }
            long magnitude = Gates.product(x.magnitude, y.magnitude, Format.MOST_SIGNIFICAND);
            return Value.finite(sign, Gates.sum(x.exponent, y.exponent), magnitude);
        }

        static Value quotient(Value x, Value y) {
            if (x.nan || y.nan || (x.infinite && y.infinite) || (x.isZero() && y.isZero())) {
                return Value.notANumber();
            }
            long sign = x.sign ^ y.sign;
            if (x.infinite || y.isZero()) {
                return Value.infinity(sign);
            }
            if (y.infinite) {
                return Value.finite(sign, 0, 0);
            }
            int places = Format.MOST_SIGNIFICAND + MORE_PLACES;
            long magnitude = Gates.quotient(x.magnitude << MORE_PLACES, y.magnitude, places);
            long exponent = Gates.difference(x.exponent, y.exponent);
            return Value.finite(sign, Gates.difference(exponent, MORE_PLACES + 1), magnitude);
        }

        static Value root(Value x) {
            if (x.nan || x.isZero()) {
                return x;
            }
            if (x.sign == 1) {
                return Value.notANumber();
            }
            if (x.infinite) {
                return x;
            }
            long odd = x.exponent & 1;
            long square = Gates.choose(odd, x.magnitude << 1, x.magnitude) << MORE_PLACES;
            long half = Gates.difference(x.exponent, odd) >> 1;
            int pairs = (Format.MOST_SIGNIFICAND + 1 + MORE_PLACES) / 2;
            long exponent = Gates.difference(half, MORE_PLACES / 2 + 1);
            return Value.finite(0, exponent, Gates.root(square, pairs));
        }

        static Value whole(int mode, Value x) {
            if (x.nan || x.infinite) {
                return x;
            }
            return Value.finite(x.sign, 0, Rounder.round(mode, x, 0));
        }
    }

    /** What the MODES ask. */
    private static final class Rounder {
        /** The magnitude of a finite x, counted in 2^last. */
        static long round(int mode, Value x, long last) {
            long places = Gates.difference(last, x.exponent);
            // Two places more at the end: the half, and the mark of all that lies behind it.
            long spare = x.magnitude << 2;
            long longer = Gates.shiftLeft(spare, Gates.negateIf(1, places));
            long shorter = Gates.shiftRightMarking(spare, places);
            long moved = Gates.choose(Gates.isNegative(places), longer, shorter);
            long kept = moved >>> 2;
            return Gates.sum(kept, oneMore(mode, x.sign, kept & 1, moved >>> 1 & 1, moved & 1));
        }

        private static long oneMore(int mode, long sign, long odd, long half, long rest) {
            switch (mode) {
                case NEAREST_EVEN:
                    return half & (rest | odd);
                case NEAREST_AWAY:
                    return half;
                case UP:
                    return (half | rest) & (sign ^ 1);
                case DOWN:
                    return (half | rest) & sign;
                default:
                    return 0;
            }
        }

        /** Whether what is beyond the greatest becomes infinite. */
        static boolean isEndless(int mode, long sign) {
            switch (mode) {
                case NEAREST_EVEN:
                case NEAREST_AWAY:
                    return true;
                case UP:
                    return sign == 0;
                case DOWN:
                    return sign == 1;
                default:
                    return false;
            }
        }
    }

    /** Circuits of gates over words of wires, negative numbers in two's complement. */
    private static final class Gates {
        private static final int WIRES = 64;
        private static final int STAGES = 6;

        /** A word whose lowest wires, count of them (0 .. 63), are on. */
        static long ones(int count) {
            return ~(-1L << count);
        }

        /** The lowest wire of a word, led to all wires. */
        static long fan(long bit) {
            return bit << (WIRES - 1) >> (WIRES - 1);
        }

        static long choose(long bit, long ifOn, long ifOff) {
            long all = fan(bit);
            return (ifOn & all) | (ifOff & ~all);
        }

        static long any(long word) {
            long joined = word;
            for (int stage = 0; stage < STAGES; stage++) {
                joined |= joined >>> (1 << stage);
            }
            return joined & 1;
        }

        static long isNegative(long word) {
            return word >>> (WIRES - 1);
        }

        static long sum(long a, long b) {
            return add(a, b, 0);
        }

        static long difference(long a, long b) {
            return add(a, ~b, 1);
        }

        static long negateIf(long bit, long word) {
            return add(word ^ fan(bit), 0, bit);
        }

        static long below(long a, long b) {
            return isNegative(difference(a, b));
        }

        /** Carries are found for all wires at once, over spans that double (Kogge and Stone). */
        private static long add(long a, long b, long carry) {
            long differ = a ^ b;
            long carries = (a & b) | (differ & carry);
            long passes = differ;
            for (int stage = 0; stage < STAGES; stage++) {
                carries |= passes & (carries << (1 << stage));
                passes &= passes << (1 << stage);
            }
            return differ ^ (carries << 1) ^ carry;
        }

        static long shiftLeft(long word, long places) {
            long moved = word;
            for (int stage = 0; stage < STAGES; stage++) {
                moved = choose(places >>> stage, moved << (1 << stage), moved);
            }
            return moved;
        }

        /** What falls off at the end leaves the lowest wire on. */
        static long shiftRightMarking(long word, long places) {
            long moved = word;
            for (int stage = 0; stage < STAGES; stage++) {
                int span = 1 << stage;
                long shorter = (moved >>> span) | any(moved & ones(span));
                moved = choose(places >>> stage, shorter, moved);
            }
            return moved;
        }

        /** The number of the highest wire that is on. */
        static long top(long word) {
            long number = 0;
            long rest = word;
            for (int stage = STAGES - 1; stage >= 0; stage--) {
                long upper = rest >>> (1 << stage);
                long found = any(upper);
                number |= found << stage;
                rest = choose(found, upper, rest);
            }
            return number;
        }

        static long product(long a, long b, int places) {
            long total = 0;
            for (int place = 0; place < places; place++) {
                total = sum(total, (a << place) & fan(b >>> place));
            }
            return total;
        }

        /** The whole quotient of a, that has so many places, and behind it a mark for the rest. */
        static long quotient(long a, long b, int places) {
            long answer = 0;
            long rest = 0;
            for (int place = places - 1; place >= 0; place--) {
                rest = (rest << 1) | (a >>> place & 1);
                long less = difference(rest, b);
                long fits = isNegative(less) ^ 1;
                rest = choose(fits, less, rest);
                answer = (answer << 1) | fits;
            }
            return (answer << 1) | any(rest);
        }

        /** The whole root of a, that has so many pairs of places, and behind it a mark for the rest. */
        static long root(long a, int pairs) {
            long answer = 0;
            long rest = 0;
            for (int pair = pairs - 1; pair >= 0; pair--) {
                rest = (rest << 2) | (a >>> (2 * pair) & 3);
                long less = difference(rest, (answer << 2) | 1);
                long fits = isNegative(less) ^ 1;
                rest = choose(fits, less, rest);
                answer = (answer << 1) | fits;
            }
            return (answer << 1) | any(rest);
        }
    }
}
