public final class Promise06SignatureTest {
    public static void main(String[] args) {
        Due due = new Due();
        areas(due);
        addressIsNoArgument(due);
        results(due);
        wrongInputs(due);
        due.end();
    }

    private static void check(Due due, CallFrames x, int area, int arguments, int behind) {
        due.answer("signature(0)", area, () -> x.signature(0));
        due.answer("signature(1)", arguments, () -> x.signature(1));
        due.answer("signature(3)", behind, () -> x.signature(3));
    }

    private static void areas(Due due) {
        CallFrames x = new CallFrames();
        x.begin(Due.VOID, 0, 0, true);
        check(due, x, 16, 0, 0);
        x.add(Due.WORD, 0, 0);
        check(due, x, 16, 1, 4);
        x.add(Due.DOUBLE, 0, 0);
        check(due, x, 16, 2, 16);
        x.add(Due.FLOAT, 0, 0);
        check(due, x, 24, 3, 20);
        x.add(Due.RECORD, 1, 1);
        check(due, x, 24, 4, 24);
        x.add(Due.RECORD, 5, 1);
        check(due, x, 32, 5, 32);
        x.add(Due.WORD, 0, 0);
        check(due, x, 40, 6, 36);
        x.add(Due.RECORD, 65536, 8);
        check(due, x, 65576, 7, 65576);
    }

    private static void addressIsNoArgument(Due due) {
        CallFrames x = new CallFrames();
        x.begin(Due.RECORD, 1000, 8, false);
        check(due, x, 16, 0, 4);
        x.add(Due.RECORD, 12, 4);
        check(due, x, 16, 1, 16);
        x.add(Due.FLOAT, 0, 0);
        check(due, x, 24, 2, 20);
    }

    private static void results(Due due) {
        int[] want = {2, 32, 32, 2, Due.NONE};
        for (int kind = 0; kind <= 4; kind++) {
            CallFrames x = new CallFrames();
            x.begin(kind, 8, 8, true);
            x.add(Due.DOUBLE, 0, 0);
            due.answer("signature(2), kind " + kind, want[kind], () -> x.signature(2));
        }
    }

    private static void wrongInputs(Due due) {
        for (int edge : Due.EDGES) {
            if (edge < 0 || edge > 3) {
                due.refusalWithoutTrace("signature(" + edge + ")", IndexOutOfBoundsException.class,
                    Promise06SignatureTest::oneDouble, x -> x.signature(edge));
            }
        }
    }

    private static CallFrames oneDouble() {
        CallFrames x = new CallFrames();
        x.add(Due.DOUBLE, 0, 0);
        return x;
    }
}
