public final class Promise04WhereTest {
    public static void main(String[] args) {
        Due due = new Due();
        fractions(due);
        noFractions(due);
        words(due);
        records(due);
        address(due);
        wrongArguments(due);
        wrongWords(due);
        numbersBehindTheLast(due);
        due.end();
    }

    /** The kinds that are added, and where the words of all arguments are due. */
    private static void check(Due due, int result, boolean open, int[] kinds, String want) {
        CallFrames x = new CallFrames();
        x.begin(result, 4, 4, open);
        for (int kind : kinds) {
            x.add(kind, 4, 4);
        }
        StringBuilder got = new StringBuilder();
        for (int i = 0; i < kinds.length; i++) {
            for (int k = 0; k < (kinds[i] == Due.DOUBLE ? 2 : 1); k++) {
                got.append(x.where(i, k)).append(' ');
            }
        }
        due.same("where of " + java.util.Arrays.toString(kinds) + ", result " + result + ", open " + open, want,
            got.toString().trim());
    }

    private static void fractions(Due due) {
        due.sentence("32 + f one of fractions ($f12: 44; of a double k 0 its upper word: 45, k 1 its lower one: 44;"
            + " a float: 44)");
        for (int result : new int[] {Due.WORD, Due.FLOAT, Due.DOUBLE, Due.VOID}) {
            check(due, result, false, new int[] {1}, "44");
            check(due, result, false, new int[] {2}, "45 44");
            check(due, result, false, new int[] {1, 1}, "44 46");
            check(due, result, false, new int[] {1, 2}, "44 47 46");
            check(due, result, false, new int[] {2, 1}, "45 44 46");
            check(due, result, false, new int[] {2, 2}, "45 44 47 46");
            check(due, result, false, new int[] {1, 1, 1, 1, 1}, "44 46 6 7 -1");
            check(due, result, false, new int[] {1, 1, 2, 1}, "44 46 6 7 -1");
            check(due, result, false, new int[] {2, 2, 2}, "45 44 47 46 -1 -1");
            check(due, result, false, new int[] {2, 1, 1, 0}, "45 44 46 7 -1");
            check(due, result, false, new int[] {1, 0, 1, 1}, "44 5 6 7");
            check(due, result, false, new int[] {1, 3, 2}, "44 5 6 7");
            check(due, result, false, new int[] {2, 0, 1}, "45 44 6 7");
        }
    }

    private static void noFractions(Due due) {
        due.sentence("4 to 7 a general register");
        check(due, Due.VOID, false, new int[] {0, 1, 1, 1}, "4 5 6 7");
        check(due, Due.VOID, false, new int[] {0, 2, 2}, "4 6 7 -1 -1");
        check(due, Due.VOID, false, new int[] {3, 1, 2}, "4 5 6 7");
        check(due, Due.VOID, true, new int[] {1, 1, 1, 1, 1}, "4 5 6 7 -1");
        check(due, Due.VOID, true, new int[] {2, 2, 2}, "4 5 6 7 -1 -1");
        check(due, Due.VOID, true, new int[] {1, 2, 1}, "4 6 7 -1");
        check(due, Due.RECORD, false, new int[] {1, 1, 1, 1}, "5 6 7 -1");
        check(due, Due.RECORD, false, new int[] {2, 2}, "6 7 -1 -1");
        check(due, Due.RECORD, true, new int[] {1, 2, 0}, "5 6 7 -1");
    }

    private static void words(Due due) {
        due.sentence("4 to 7 a general register, .. NONE in memory");
        check(due, Due.WORD, false, new int[] {0, 0, 0, 0, 0, 0}, "4 5 6 7 -1 -1");
        check(due, Due.WORD, true, new int[] {0, 0, 0, 0, 0}, "4 5 6 7 -1");
        check(due, Due.RECORD, false, new int[] {0, 0, 0, 0}, "5 6 7 -1");
    }

    private static void records(Due due) {
        due.sentence("Where word k of an argument (..) is");
        CallFrames x = new CallFrames();
        x.add(Due.WORD, 0, 0);
        x.add(Due.RECORD, 24, 8);
        int[] want = {6, 7, -1, -1, -1, -1};
        for (int k = 0; k < want.length; k++) {
            int word = k;
            due.answer("where(1, " + k + ")", want[k], () -> x.where(1, word));
        }
        due.refusal("where(1, 6)", IndexOutOfBoundsException.class, () -> x.where(1, 6));
        CallFrames y = new CallFrames();
        y.add(Due.RECORD, 65533, 1);
        due.answer("where(0, 3)", 7, () -> y.where(0, 3));
        due.answer("where(0, 4)", Due.NONE, () -> y.where(0, 4));
        due.answer("where(0, 16383)", Due.NONE, () -> y.where(0, 16383));
        due.refusal("where(0, 16384)", IndexOutOfBoundsException.class, () -> y.where(0, 16384));
        CallFrames z = new CallFrames();
        z.add(Due.RECORD, 8, 8);
        z.add(Due.RECORD, 3, 1);
        z.add(Due.RECORD, 2, 1);
        due.answer("a record of 8 as the first, k 0", 4, () -> z.where(0, 0));
        due.answer("a record of 8 as the first, k 1", 5, () -> z.where(0, 1));
        due.answer("a record of 3", 6, () -> z.where(1, 0));
        due.answer("a record of 2", 7, () -> z.where(2, 0));
    }

    private static void address(Due due) {
        due.sentence("number -1: the address of a record that is the result");
        CallFrames x = new CallFrames();
        x.begin(Due.RECORD, 64, 8, true);
        due.answer("where(-1, 0)", 4, () -> x.where(-1, 0));
        due.refusal("where(-1, 1)", IndexOutOfBoundsException.class, () -> x.where(-1, 1));
        due.refusal("where(-1, -1)", IndexOutOfBoundsException.class, () -> x.where(-1, -1));
        for (int kind : new int[] {Due.WORD, Due.FLOAT, Due.DOUBLE, Due.VOID}) {
            x.begin(kind, 64, 8, false);
            due.refusal("where(-1, 0), result " + kind, IndexOutOfBoundsException.class, () -> x.where(-1, 0));
        }
    }

    private static void wrongArguments(Due due) {
        due.sentence("IndexOutOfBoundsException: there is no such argument or word.");
        for (int edge : Due.EDGES) {
            if (edge < 0 || edge > 1) {
                due.refusalWithoutTrace("where(" + edge + ", 0)", IndexOutOfBoundsException.class,
                    Promise04WhereTest::doubleAndFloat, x -> x.where(edge, 0));
                due.refusalWithoutTrace("where(0, " + edge + ")", IndexOutOfBoundsException.class,
                    Promise04WhereTest::doubleAndFloat, x -> x.where(0, edge));
            }
            if (edge != 0) {
                due.refusalWithoutTrace("where(1, " + edge + ")", IndexOutOfBoundsException.class,
                    Promise04WhereTest::doubleAndFloat, x -> x.where(1, edge));
            }
        }
        CallFrames x = doubleAndFloat();
        while (x.signature(1) < 60) {
            x.add(Due.WORD, 0, 0);
        }
        due.answer("where(59, 0)", Due.NONE, () -> x.where(59, 0));
        due.refusal("where(60, 0)", IndexOutOfBoundsException.class, () -> x.where(60, 0));
    }

    private static void wrongWords(Due due) {
        due.sentence("IndexOutOfBoundsException: there is no such argument or word.");
        // the kind, the size, how many words there are, where the last one is behind a word
        int[][] rows = {{Due.WORD, 0, 1, 5}, {Due.FLOAT, 0, 1, 5}, {Due.DOUBLE, 0, 2, 7}, {Due.RECORD, 1, 1, 5},
            {Due.RECORD, 4, 1, 5}, {Due.RECORD, 5, 2, 6}, {Due.RECORD, 65532, 16383, Due.NONE},
            {Due.RECORD, 65533, 16384, Due.NONE}, {Due.RECORD, 65536, 16384, Due.NONE}};
        for (int[] row : rows) {
            CallFrames x = new CallFrames();
            x.add(Due.WORD, 0, 0);
            x.add(row[0], row[1], 1);
            String what = "kind " + row[0] + " of " + row[1];
            due.answer("where(1, " + (row[2] - 1) + "), " + what, row[3], () -> x.where(1, row[2] - 1));
            // four times some of these wraps around to a home below 16
            for (int k : new int[] {row[2], row[2] + 1, -1, -2, 16385, 1 << 30, (1 << 30) - 1, (1 << 30) + 1, 1 << 29,
                -1 << 30, Integer.MAX_VALUE, Integer.MIN_VALUE, Integer.MIN_VALUE + 1}) {
                due.refusal("where(1, " + k + "), " + what, IndexOutOfBoundsException.class, () -> x.where(1, k));
            }
        }
    }

    private static void numbersBehindTheLast(Due due) {
        due.sentence("IndexOutOfBoundsException: there is no such argument or word.");
        for (int result : new int[] {Due.VOID, Due.RECORD}) {
            CallFrames x = new CallFrames();
            x.begin(result, 4, 4, true);
            for (int count = 0; count <= 60; count++) {
                int next = count;
                due.refusal("where(" + next + ", 0) of " + count, IndexOutOfBoundsException.class,
                    () -> x.where(next, 0));
                if (count < 60) {
                    x.add(Due.WORD, 0, 0);
                    int home = result == Due.RECORD ? 4 + 4 * count : 4 * count;
                    due.answer("where(" + next + ", 0)", home < 16 ? 4 + home / 4 : Due.NONE, () -> x.where(next, 0));
                }
            }
        }
    }

    private static CallFrames doubleAndFloat() {
        CallFrames x = new CallFrames();
        x.add(Due.DOUBLE, 0, 0);
        x.add(Due.FLOAT, 0, 0);
        return x;
    }
}
