public final class Promise06SignatureTest {
    public static void main(String[] args) {
        Due due = new Due();
        areas(due);
        addressIsNoArgument(due);
        behindAll(due);
        most(due);
        results(due);
        wrongInputs(due);
        due.end();
    }

    private static void check(Due due, CallFrames x, int area, int arguments, int behind) {
        due.answer("signature(0)", area, () -> x.signature(0));
        due.answer("signature(1)", arguments, () -> x.signature(1));
        due.answer("signature(3)", behind, () -> x.signature(3));
    }

    private static void areas(Due due) {
        due.sentence("The AREA's size (what 0), .. the first home behind all (3: where an OPEN signature's next"
            + " argument of a word would be).");
        CallFrames x = new CallFrames();
        x.begin(Due.VOID, 0, 0, true);
        check(due, x, 16, 0, 0);
        x.add(Due.WORD, 0, 0);
        check(due, x, 16, 1, 4);
        x.add(Due.DOUBLE, 0, 0);
        check(due, x, 16, 2, 16);
        x.add(Due.FLOAT, 0, 0);
        check(due, x, 24, 3, 20);
        x.add(Due.RECORD, 1, 1);
        check(due, x, 24, 4, 24);
        x.add(Due.RECORD, 5, 1);
        check(due, x, 32, 5, 32);
        x.add(Due.WORD, 0, 0);
        check(due, x, 40, 6, 36);
        x.add(Due.RECORD, 65536, 8);
        check(due, x, 65576, 7, 65576);
    }

    private static void addressIsNoArgument(Due due) {
        due.sentence("arguments without the address (1)");
        CallFrames x = new CallFrames();
        x.begin(Due.RECORD, 1000, 8, false);
        check(due, x, 16, 0, 4);
        x.add(Due.RECORD, 12, 4);
        check(due, x, 16, 1, 16);
        x.add(Due.FLOAT, 0, 0);
        check(due, x, 24, 2, 20);
    }

    private static void behindAll(Due due) {
        due.sentence("the first home behind all (3: where an OPEN signature's next argument of a word would be)");
        int[][] lasts = {{Due.WORD, 0, 0, 4}, {Due.FLOAT, 0, 0, 4}, {Due.DOUBLE, 0, 0, 8}, {Due.RECORD, 1, 1, 4},
            {Due.RECORD, 2, 2, 4}, {Due.RECORD, 3, 1, 4}, {Due.RECORD, 4, 4, 4}, {Due.RECORD, 5, 1, 8},
            {Due.RECORD, 8, 8, 8}, {Due.RECORD, 65535, 1, 65536}};
        for (int[] last : lasts) {
            int end = last[3];
            for (boolean open : new boolean[] {false, true}) {
                CallFrames x = new CallFrames();
                x.begin(Due.VOID, 0, 0, open);
                x.add(last[0], last[1], last[2]);
                due.answer("signature(3) behind kind " + last[0] + " of " + last[1], end, () -> x.signature(3));
                due.answer("a word there", end, () -> x.add(Due.WORD, 0, 0));
            }
        }
    }

    private static void most(Due due) {
        due.sentence("The AREA's size (what 0), arguments without the address (1)");
        CallFrames x = new CallFrames();
        x.begin(Due.RECORD, 4, 4, false);
        for (int i = 0; i < 60; i++) {
            x.add(Due.WORD, 0, 0);
        }
        check(due, x, 248, 60, 244);
        CallFrames y = new CallFrames();
        for (int i = 0; i < 15; i++) {
            y.add(Due.RECORD, 65536, 8);
        }
        y.add(Due.RECORD, 16953, 1);
        check(due, y, 1000000, 16, 999996);
        y.add(Due.WORD, 0, 0);
        check(due, y, 1000000, 17, 1000000);
    }

    private static void results(Due due) {
        due.sentence("where the result is (2: 2, 32 + 0, NONE)");
        int[] want = {2, 32, 32, 2, Due.NONE};
        for (int kind = 0; kind <= 4; kind++) {
            CallFrames x = new CallFrames();
            x.begin(kind, 8, 8, true);
            x.add(Due.DOUBLE, 0, 0);
            due.answer("signature(2), kind " + kind, want[kind], () -> x.signature(2));
        }
    }

    private static void wrongInputs(Due due) {
        due.sentence("IndexOutOfBoundsException: another what.");
        for (int edge : Due.EDGES) {
            if (edge < 0 || edge > 3) {
                due.refusalWithoutTrace("signature(" + edge + ")", IndexOutOfBoundsException.class,
                    Promise06SignatureTest::oneDouble, x -> x.signature(edge));
            }
        }
    }

    private static CallFrames oneDouble() {
        CallFrames x = new CallFrames();
        x.add(Due.DOUBLE, 0, 0);
        return x;
    }
}
