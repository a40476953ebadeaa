public final class Promise01NewObjectTest {
    public static void main(String[] args) {
        Due due = new Due();
        signature(due);
        frame(due);
        objectsAreApart(due);
        due.end();
    }

    private static void signature(Due due) {
        CallFrames x = new CallFrames();
        due.answer("signature(0)", 16, () -> x.signature(0));
        due.answer("signature(1)", 0, () -> x.signature(1));
        due.answer("signature(2)", Due.NONE, () -> x.signature(2));
        due.answer("signature(3)", 0, () -> x.signature(3));
        due.refusal("where(0, 0)", IndexOutOfBoundsException.class, () -> x.where(0, 0));
        due.refusal("where(-1, 0)", IndexOutOfBoundsException.class, () -> x.where(-1, 0));
        due.answer("add of a float", 0, () -> x.add(Due.FLOAT, 0, 0));
        due.answer("where(0, 0): not open", 44, () -> x.where(0, 0));
    }

    private static void frame(Due due) {
        CallFrames x = new CallFrames();
        for (int n = 0; n < 32; n++) {
            int register = n;
            due.answer("place(0, " + n + ")", 0, () -> x.place(0, register));
            due.answer("place(1, " + n + ")", Due.NONE, () -> x.place(1, register));
            due.answer("place(2, " + n + ")", Due.NONE, () -> x.place(2, register));
        }
        due.answer("frame(0, 0, 0)", 0, () -> x.frame(0, 0, 0));
        due.answer("clear()", 0, x::clear);
    }

    private static void objectsAreApart(Due due) {
        CallFrames x = new CallFrames();
        CallFrames y = new CallFrames();
        String fresh = Due.state(y);
        x.begin(Due.RECORD, 8, 8, true);
        x.add(Due.DOUBLE, 0, 0);
        x.call();
        x.frame(100, 1 << 16, 1 << 20);
        due.same("another object", fresh, Due.state(y));
        due.answer("another object's clear()", 0, y::clear);
    }
}
