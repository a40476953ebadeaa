public final class Promise05AboutTest {
    public static void main(String[] args) {
        Due due = new Due();
        arguments(due);
        address(due);
        wrongInputs(due);
        numbersBehindTheLast(due);
        due.end();
    }

    private static void check(Due due, CallFrames x, int argument, int home, int bytes, int words) {
        due.answer("about(" + argument + ", 0)", home, () -> x.about(argument, 0));
        due.answer("about(" + argument + ", 1)", bytes, () -> x.about(argument, 1));
        due.answer("about(" + argument + ", 2)", words, () -> x.about(argument, 2));
    }

    private static void arguments(Due due) {
        due.sentence("An argument's home (what 0), bytes (1: of words and floats 4), words (2).");
        CallFrames x = new CallFrames();
        x.add(Due.WORD, 100, 1);
        x.add(Due.DOUBLE, 100, 1);
        x.add(Due.FLOAT, 100, 1);
        x.add(Due.RECORD, 1, 1);
        x.add(Due.RECORD, 17, 1);
        x.add(Due.RECORD, 18, 2);
        x.add(Due.RECORD, 20, 4);
        x.add(Due.RECORD, 65536, 8);
        x.add(Due.RECORD, 65535, 1);
        check(due, x, 0, 0, 4, 1);
        check(due, x, 1, 8, 8, 2);
        check(due, x, 2, 16, 4, 1);
        check(due, x, 3, 20, 1, 1);
        check(due, x, 4, 24, 17, 5);
        check(due, x, 5, 44, 18, 5);
        check(due, x, 6, 64, 20, 5);
        check(due, x, 7, 88, 65536, 16384);
        check(due, x, 8, 65624, 65535, 16384);
    }

    private static void address(Due due) {
        due.sentence("-1 is one, if the result is a record");
        CallFrames x = new CallFrames();
        x.begin(Due.RECORD, 64, 8, false);
        check(due, x, -1, 0, 4, 1);
        x.add(Due.DOUBLE, 0, 0);
        check(due, x, -1, 0, 4, 1);
        check(due, x, 0, 8, 8, 2);
        due.refusal("about(-1, 3)", IndexOutOfBoundsException.class, () -> x.about(-1, 3));
        due.refusal("about(-2, 0)", IndexOutOfBoundsException.class, () -> x.about(-2, 0));
        x.begin(Due.WORD, 64, 8, false);
        due.refusal("about(-1, 0)", IndexOutOfBoundsException.class, () -> x.about(-1, 0));
    }

    private static void wrongInputs(Due due) {
        due.sentence("IndexOutOfBoundsException: there is no such argument (..), or another what.");
        CallFrames x = new CallFrames();
        due.refusal("about(0, 0) of none", IndexOutOfBoundsException.class, () -> x.about(0, 0));
        for (int edge : Due.EDGES) {
            if (edge != 0) {
                due.refusalWithoutTrace("about(" + edge + ", 0)", IndexOutOfBoundsException.class,
                    Promise05AboutTest::oneRecord, y -> y.about(edge, 0));
            }
            if (edge < 0 || edge > 2) {
                due.refusalWithoutTrace("about(0, " + edge + ")", IndexOutOfBoundsException.class,
                    Promise05AboutTest::oneRecord, y -> y.about(0, edge));
            }
        }
        x.add(Due.RECORD, 40, 8);
        while (x.signature(1) < 60) {
            x.add(Due.WORD, 0, 0);
        }
        check(due, x, 59, 272, 4, 1);
        due.refusal("about(60, 0)", IndexOutOfBoundsException.class, () -> x.about(60, 0));
    }

    private static void numbersBehindTheLast(Due due) {
        due.sentence("IndexOutOfBoundsException: there is no such argument");
        CallFrames x = new CallFrames();
        for (int count = 0; count <= 60; count++) {
            int next = count;
            due.refusal("about(" + next + ", 0) of " + count, IndexOutOfBoundsException.class,
                () -> x.about(next, 0));
            if (count < 60) {
                x.add(Due.DOUBLE, 0, 0);
                check(due, x, next, 8 * next, 8, 2);
            }
        }
        x.begin(Due.VOID, 0, 0, false);
        due.refusal("about(0, 0) behind begin", IndexOutOfBoundsException.class, () -> x.about(0, 0));
        x.add(Due.WORD, 0, 0);
        check(due, x, 0, 0, 4, 1);
        due.refusal("about(1, 0), one of the signature before", IndexOutOfBoundsException.class,
            () -> x.about(1, 0));
    }

    private static CallFrames oneRecord() {
        CallFrames x = new CallFrames();
        x.add(Due.RECORD, 40, 8);
        return x;
    }
}
