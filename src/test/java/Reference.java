import java.util.Arrays;

/**
 * What the document asks, reckoned another way than by the class: a FORMAT is a row of doubles, and a
 * result is found in it by comparing. All doubles here are exact: a FLOAT has 11 places at most, so
 * that sums have some 41, products 22, and a place between two FLOATs 12.
 */
final class Reference {
    static final int MODES = 5;

    final int e;
    final int s;
    final int size;
    final int sign;
    final int infinity;
    final int nan;
    /** The exponent of the greatest, as far above 0 as that of the least normal is below 1. */
    final int bias;
    final int one;
    final int leastNormal;
    final int greatest;
    /** The numbers of FLOATs 0 .. infinity - 1, and at the end the one that would come next. */
    private final double[] row;

    /** An exact magnitude, known by how it compares. */
    interface Exact {
        int compareTo(double other);
    }

    Reference(int e, int s) {
        this.e = e;
        this.s = s;
        size = 1 << (e + s);
        sign = size / 2;
        infinity = sign - (1 << (s - 1));
        nan = infinity + (1 << (s - 2));
        bias = (1 << (e - 1)) - 1;
        leastNormal = 1 << (s - 1);
        one = bias * leastNormal;
        greatest = infinity - 1;
        row = new double[infinity + 1];
        double step = Math.pow(2, 2 - (1 << (e - 1)) - (s - 1));
        for (int x = 1; x <= infinity; x++) {
            boolean nextBinade = x - 1 >= 2 << (s - 1) && (x - 1) % (1 << (s - 1)) == 0;
            step = nextBinade ? step * 2 : step;
            row[x] = row[x - 1] + step;
        }
    }

    /** All 40 FORMATs. */
    static Reference[] all() {
        Reference[] formats = new Reference[40];
        Arrays.setAll(formats, i -> new Reference(2 + i % 4, 2 + i / 4));
        return formats;
    }

    /** The FLOAT of 2^k, which this FORMAT must have. */
    int power(int k) {
        boolean normal = k >= 1 - bias;
        return normal ? (k + bias) * leastNormal : 1 << (k - (2 - bias - s));
    }

    int minus(int x) {
        return x + sign;
    }

    boolean isNan(int x) {
        return x % sign > infinity;
    }

    boolean isInfinite(int x) {
        return x % sign == infinity;
    }

    boolean isNegative(int x) {
        return x >= sign;
    }

    /** The number of a FLOAT as a double, that has infinities, NaN and zeros of two signs too. */
    double number(int x) {
        if (isNan(x)) {
            return Double.NaN;
        }
        double magnitude = isInfinite(x) ? Double.POSITIVE_INFINITY : row[x % sign];
        return isNegative(x) ? -magnitude : magnitude;
    }

    /** The FLOAT to which a double rounds that is the exact result. */
    int round(int mode, double exact) {
        if (Double.isNaN(exact)) {
            return nan;
        }
        boolean negative = exact < 0 || 1 / exact < 0;
        if (Double.isInfinite(exact)) {
            return negative ? sign + infinity : infinity;
        }
        double magnitude = Math.abs(exact);
        return round(mode, negative, other -> Double.compare(magnitude, other));
    }

    int round(int mode, boolean negative, Exact exact) {
        int below = 0;
        int above = infinity + 1;
        while (above - below > 1) {
            int middle = (below + above) / 2;
            if (exact.compareTo(row[middle]) >= 0) {
                below = middle;
            } else {
                above = middle;
            }
        }
        int magnitude = below == infinity ? beyond(mode, negative) : near(mode, negative, exact, below);
        return negative ? sign + magnitude : magnitude;
    }

    private int beyond(int mode, boolean negative) {
        boolean endless = mode < 2 || mode == (negative ? 3 : 2);
        return endless ? infinity : infinity - 1;
    }

    private int near(int mode, boolean negative, Exact exact, int below) {
        if (exact.compareTo(row[below]) == 0) {
            return below;
        }
        if (mode >= 2) {
            return mode == (negative ? 3 : 2) ? below + 1 : below;
        }
        int half = exact.compareTo((row[below] + row[below + 1]) / 2);
        if (half == 0) {
            return mode == 1 || below % 2 == 1 ? below + 1 : below;
        }
        return half > 0 ? below + 1 : below;
    }

    int reckon(int kind, int mode, int x, int y) {
        double a = number(x);
        double b = number(y);
        switch (kind) {
            case 0:
                return sum(mode, a, b);
            case 1:
                return sum(mode, a, -b);
            case 2:
                return round(mode, a * b);
            default:
                return quotient(mode, a, b);
        }
    }

    private int sum(int mode, double a, double b) {
        double total = a + b;
        boolean cancelled = total == 0 && (a != 0 || 1 / a != 1 / b);
        return cancelled ? (mode == 3 ? sign : 0) : round(mode, total);
    }

    private int quotient(int mode, double a, double b) {
        double about = a / b;
        if (Double.isNaN(about) || Double.isInfinite(about) || about == 0) {
            return round(mode, about);
        }
        double over = Math.abs(a);
        double under = Math.abs(b);
        return round(mode, about < 0, other -> Double.compare(over, other * under));
    }

    int root(int mode, int x) {
        double a = number(x);
        if (!(a > 0) || isInfinite(x)) {
            return round(mode, Math.sqrt(a));
        }
        return round(mode, false, other -> Double.compare(a, other * other));
    }

    /** A double rounded to a whole number; zeros keep the sign. */
    static double whole(int mode, double a) {
        double magnitude = Math.abs(a);
        double rounded;
        switch (mode) {
            case 0:
                return Math.rint(a);
            case 1:
                rounded = magnitude - Math.floor(magnitude) >= 0.5 ? Math.ceil(magnitude) : Math.floor(magnitude);
                return Math.copySign(rounded, a);
            case 2:
                return Math.ceil(a);
            case 3:
                return Math.floor(a);
            default:
                return Math.copySign(Math.floor(magnitude), a);
        }
    }

    /** All FLOATs if there are few, else the edges and some between them. */
    int[] samples(int most) {
        if (size <= most) {
            int[] all = new int[size];
            Arrays.setAll(all, x -> x);
            return all;
        }
        int[] edges = {0, 1, 2, 3, leastNormal - 1, leastNormal, leastNormal + 1, one - 1, one, one + 1,
            one + leastNormal / 2, infinity - 2, infinity - 1, infinity, infinity + 1, nan, sign - 1};
        int[] chosen = new int[most];
        long seed = size;
        for (int i = 0; i < most; i++) {
            seed = seed * 6364136223846793005L + 1442695040888963407L;
            boolean edge = i < 2 * edges.length;
            chosen[i] = edge ? edges[i / 2] + i % 2 * sign : (int) ((seed >>> 33) % size);
        }
        return chosen;
    }
}
