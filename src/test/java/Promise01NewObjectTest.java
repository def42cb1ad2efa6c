/** Promise 1: a new object has the FORMAT 5, 11. */
public final class Promise01NewObjectTest {
    public static void main(String[] args) {
        Check check = new Check();
        check.due(0x4000, new FloatCircuits().reckon(0, 0, 0x3c00, 0x3c00), "1 + 1");
        check.due(0x7e00, new FloatCircuits().change(2, 0, 0xffff), "NaN without its sign");
        check.due(0x3c00, new FloatCircuits().from(5, 11, 0, 0x3c00), "1 from 5, 11");
        check.due(true, new FloatCircuits().is(3, 0x7c00), "is infinite");
        check.refused("a FLOAT of 17 bits", () -> new FloatCircuits().is(0, 0x10000));
        theFormatIsEachObjectsOwn(check);
        check.end();
    }

    private static void theFormatIsEachObjectsOwn(Check check) {
        FloatCircuits first = new FloatCircuits();
        FloatCircuits second = new FloatCircuits();
        first.format(2, 2);
        check.due(0x7c00, second.ofWhole(0, -1, 32, false), "infinite in 5, 11");
        check.due(6, first.ofWhole(0, -1, 32, false), "infinite in 2, 2");
        check.due(0x7c00, new FloatCircuits().ofWhole(0, -1, 32, false), "infinite in a third object");
    }
}
