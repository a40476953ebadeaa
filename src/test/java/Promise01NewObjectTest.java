public final class Promise01NewObjectTest {
    private static final int STEPS = 5;

    public static void main(String[] args) {
        Due due = new Due();
        signature(due);
        frame(due);
        objectsAreApart(due);
        objectsByTurns(due);
        due.end();
    }

    private static void signature(Due due) {
        due.sentence("A signature of a void result, not open, without arguments");
        CallFrames x = new CallFrames();
        due.answer("signature(0)", 16, () -> x.signature(0));
        due.answer("signature(1)", 0, () -> x.signature(1));
        due.answer("signature(2)", Due.NONE, () -> x.signature(2));
        due.answer("signature(3)", 0, () -> x.signature(3));
        due.refusal("where(0, 0)", IndexOutOfBoundsException.class, () -> x.where(0, 0));
        due.refusal("where(-1, 0)", IndexOutOfBoundsException.class, () -> x.where(-1, 0));
        due.refusal("about(0, 0)", IndexOutOfBoundsException.class, () -> x.about(0, 0));
        due.refusal("about(-1, 0)", IndexOutOfBoundsException.class, () -> x.about(-1, 0));
        due.answer("add of a float", 0, () -> x.add(Due.FLOAT, 0, 0));
        due.answer("where(0, 0): not open", 44, () -> x.where(0, 0));
    }

    private static void frame(Due due) {
        due.sentence("no calls were told; a frame without anything");
        CallFrames x = new CallFrames();
        for (int n = 0; n < 32; n++) {
            int register = n;
            due.answer("place(0, " + n + ")", 0, () -> x.place(0, register));
            due.answer("place(1, " + n + ")", Due.NONE, () -> x.place(1, register));
            due.answer("place(2, " + n + ")", Due.NONE, () -> x.place(2, register));
        }
        due.answer("frame(0, 0, 0)", 0, () -> x.frame(0, 0, 0));
        due.answer("clear()", 0, x::clear);
        due.answer("clear() as the first call", 0, () -> new CallFrames().clear());
        due.answer("call() as the first call", 16, () -> new CallFrames().call());
    }

    private static void objectsAreApart(Due due) {
        due.sentence("A signature of a void result, not open, without arguments; no calls were told; a frame without"
            + " anything.");
        CallFrames x = new CallFrames();
        CallFrames y = new CallFrames();
        String fresh = Due.state(y);
        x.begin(Due.RECORD, 8, 8, true);
        x.add(Due.DOUBLE, 0, 0);
        x.call();
        x.frame(100, 1 << 16, 1 << 20);
        due.same("another object", fresh, Due.state(y));
        due.answer("another object's clear()", 0, y::clear);
    }

    /** Two objects that are used by turns answer like two that are used one after the other. */
    private static void objectsByTurns(Due due) {
        due.sentence("A signature of a void result, not open, without arguments; no calls were told");
        String floatAlone = Due.wholeState(usedAlone(Due.FLOAT));
        String doubleAlone = Due.wholeState(usedAlone(Due.DOUBLE));
        CallFrames x = new CallFrames();
        CallFrames y = new CallFrames();
        for (int step = 0; step < STEPS; step++) {
            use(x, step, Due.FLOAT);
            use(y, step, Due.DOUBLE);
        }
        due.same("the first of two by turns", floatAlone, Due.wholeState(x));
        due.same("the second of two by turns", doubleAlone, Due.wholeState(y));
    }

    private static CallFrames usedAlone(int kind) {
        CallFrames x = new CallFrames();
        for (int step = 0; step < STEPS; step++) {
            use(x, step, kind);
        }
        return x;
    }

    private static void use(CallFrames x, int step, int kind) {
        switch (step) {
            case 0:
                x.begin(kind, 0, 0, kind == Due.DOUBLE);
                break;
            case 1:
                x.add(kind == Due.FLOAT ? Due.FLOAT : Due.WORD, 0, 0);
                break;
            case 2:
                x.add(kind == Due.FLOAT ? Due.RECORD : Due.DOUBLE, 30, 1);
                break;
            case 3:
                x.call();
                break;
            default:
                x.frame(10 * kind, kind << 16, kind == Due.FLOAT ? 1 << 20 : 0);
        }
    }
}
