import java.util.Arrays;

/** Calls on one object, told by name and numbers (a boolean is 1 or 0), each with what is due. */
final class Run {
    private static final int MOST_CALLS = 512;

    private final Check check;
    private final FloatCircuits object = new FloatCircuits();
    private String where = "";
    private int calls = 0;

    /** A new object, as it is. */
    Run(Check check) {
        this.check = check;
    }

    /** A new object, set to a FORMAT. */
    Run(Check check, Reference format) {
        this(check, format.e, format.s);
    }

    Run(Check check, int e, int s) {
        this.check = check;
        call("format", e, s);
        where = " in " + e + ", " + s + " of ";
    }

    void answers(long want, String name, int... arguments) {
        try {
            check.due(want, call(name, arguments), name + where, arguments);
        } catch (IllegalArgumentException thrown) {
            check.due(true, false, name + where + "refused: ", arguments);
        }
    }

    void refuses(String name, int... arguments) {
        check.refused(name + where + Arrays.toString(arguments), () -> call(name, arguments));
    }

    /** Any answer is fine, but one is due. */
    void takes(String name, int... arguments) {
        try {
            call(name, arguments);
            check.due(true, true, name, arguments);
        } catch (IllegalArgumentException thrown) {
            check.due(true, false, name + where + "refused: ", arguments);
        }
    }

    /** The object is in this FORMAT and no other. */
    void isIn(Reference format) {
        answers(format.one, "ofWhole", 0, 1, 32, 1);
        answers(format.nan, "change", 2, 0, format.size - 1);
        answers(format.infinity, "ofWhole", 0, Integer.MAX_VALUE, 32, 1);
        refuses("is", 0, format.size);
    }

    private long call(String name, int... a) {
        calls++;
        if (calls > MOST_CALLS) {
            throw new IllegalStateException("the test uses an object for more than 512 calls");
        }
        switch (name) {
            case "format":
                return object.format(a[0], a[1]);
            case "reckon":
                return object.reckon(a[0], a[1], a[2], a[3]);
            case "change":
                return object.change(a[0], a[1], a[2]);
            case "least":
                return object.least(a[0], a[1], a[2] == 1);
            case "compare":
                return object.compare(a[0], a[1], a[2]) ? 1 : 0;
            case "is":
                return object.is(a[0], a[1]) ? 1 : 0;
            case "from":
                return object.from(a[0], a[1], a[2], a[3]);
            case "ofWhole":
                return object.ofWhole(a[0], a[1], a[2], a[3] == 1);
            case "toWhole":
                return object.toWhole(a[0], a[1], a[2], a[3] == 1);
            default:
                throw new IllegalStateException("no call is named " + name);
        }
    }
}
