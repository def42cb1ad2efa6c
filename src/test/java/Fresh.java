/** Hands out an object in one FORMAT, and a new one before the 512 calls of the old one are used up. */
final class Fresh {
    private static final int MOST_CALLS = 500;

    private final int e;
    private final int s;
    private FloatCircuits object;
    private int calls = 0;

    Fresh(int e, int s) {
        this.e = e;
        this.s = s;
    }

    FloatCircuits next() {
        if (object == null || calls == MOST_CALLS) {
            object = new FloatCircuits();
            object.format(e, s);
            calls = 0;
        }
        calls++;
        return object;
    }
}
