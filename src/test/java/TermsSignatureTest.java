/** The terms SIGNATURE and RESULTS. */
public final class TermsSignatureTest {
    public static void main(String[] args) {
        Due due = new Due();
        none(due);
        sixty(due, Due.VOID, false, 0);
        sixty(due, Due.FLOAT, true, 0);
        sixty(due, Due.RECORD, false, 4);
        sixty(due, Due.RECORD, true, 4);
        roomAgain(due);
        address(due);
        noAddress(due);
        results(due);
        due.end();
    }

    private static CallFrames with(int result, boolean open, int words) {
        CallFrames x = new CallFrames();
        x.begin(result, 8, 8, open);
        for (int i = 0; i < words; i++) {
            x.add(Due.WORD, 0, 0);
        }
        return x;
    }

    private static void none(Due due) {
        due.sentence("arguments, at most 60");
        for (boolean open : new boolean[] {false, true}) {
            CallFrames x = with(Due.WORD, open, 0);
            due.answer("arguments of none", 0, () -> x.signature(1));
            due.refusal("about(0, 0) of none", IndexOutOfBoundsException.class, () -> x.about(0, 0));
            due.refusal("where(0, 0) of none", IndexOutOfBoundsException.class, () -> x.where(0, 0));
        }
    }

    private static void sixty(Due due, int result, boolean open, int first) {
        due.sentence("arguments, at most 60");
        String what = ", result " + result + ", open " + open;
        CallFrames x = with(result, open, 59);
        due.answer("add of the 60th" + what, first + 4 * 59, () -> x.add(Due.WORD, 0, 0));
        due.answer("arguments" + what, 60, () -> x.signature(1));
        due.answer("about(59, 0)" + what, first + 4 * 59, () -> x.about(59, 0));
        due.refusal("about(60, 0)" + what, IndexOutOfBoundsException.class, () -> x.about(60, 0));
        for (int kind = 0; kind <= 3; kind++) {
            int one = kind;
            due.refusalWithoutTrace("add of a 61st, kind " + kind + what, IllegalStateException.class,
                () -> with(result, open, 60), y -> y.add(one, 4, 4));
        }
    }

    private static void roomAgain(Due due) {
        due.sentence("arguments, at most 60");
        CallFrames x = with(Due.VOID, false, 60);
        x.clear();
        due.refusal("add of a 61st behind clear()", IllegalStateException.class, () -> x.add(Due.WORD, 0, 0));
        due.refusal("a begin that is refused", IllegalArgumentException.class, () -> x.begin(5, 0, 0, false));
        due.refusal("add of a 61st behind it", IllegalStateException.class, () -> x.add(Due.WORD, 0, 0));
        x.begin(Due.VOID, 0, 0, false);
        for (int i = 0; i < 60; i++) {
            int home = 4 * i;
            due.answer("add number " + i + " behind begin", home, () -> x.add(Due.FLOAT, 0, 0));
        }
        due.refusal("add of a 61st", IllegalStateException.class, () -> x.add(Due.WORD, 0, 0));
    }

    private static void address(Due due) {
        due.sentence("If the result is a record, the address where it goes is passed as a word ahead of all arguments"
            + " (argument number -1), and comes back in $2.");
        for (int count : new int[] {0, 1, 3, 4, 59, 60}) {
            for (boolean open : new boolean[] {false, true}) {
                CallFrames x = with(Due.RECORD, open, count);
                String what = ", " + count + " arguments, open " + open;
                due.answer("where(-1, 0)" + what, 4, () -> x.where(-1, 0));
                due.answer("about(-1, 0)" + what, 0, () -> x.about(-1, 0));
                due.answer("about(-1, 1)" + what, 4, () -> x.about(-1, 1));
                due.answer("about(-1, 2)" + what, 1, () -> x.about(-1, 2));
                due.answer("signature(1)" + what, count, () -> x.signature(1));
                due.answer("signature(2)" + what, 2, () -> x.signature(2));
                due.answer("signature(3)" + what, 4 + 4 * count, () -> x.signature(3));
                due.refusal("where(-1, 1)" + what, IndexOutOfBoundsException.class, () -> x.where(-1, 1));
                due.refusal("where(-2, 0)" + what, IndexOutOfBoundsException.class, () -> x.where(-2, 0));
                due.refusal("about(-2, 0)" + what, IndexOutOfBoundsException.class, () -> x.about(-2, 0));
            }
        }
    }

    private static void noAddress(Due due) {
        due.sentence("If the result is a record, the address where it goes is passed as a word ahead of all arguments");
        for (int result : new int[] {Due.WORD, Due.FLOAT, Due.DOUBLE, Due.VOID}) {
            for (int count : new int[] {0, 1, 60}) {
                CallFrames x = with(result, true, count);
                String what = ", result " + result + ", " + count + " arguments";
                due.refusal("where(-1, 0)" + what, IndexOutOfBoundsException.class, () -> x.where(-1, 0));
                due.refusal("about(-1, 0)" + what, IndexOutOfBoundsException.class, () -> x.about(-1, 0));
                due.answer("signature(3)" + what, 4 * count, () -> x.signature(3));
            }
        }
    }

    private static void results(Due due) {
        due.sentence("RESULTS: a word in $2; a float or double in $f0; a record's address in $2; of void none.");
        int[] want = {2, 32, 32, 2, Due.NONE};
        for (int result = 0; result <= 4; result++) {
            for (boolean open : new boolean[] {false, true}) {
                for (int count : new int[] {0, 1, 60}) {
                    CallFrames x = with(result, open, count);
                    due.answer("the result, kind " + result + ", open " + open + ", " + count + " arguments",
                        want[result], () -> x.signature(2));
                }
            }
        }
    }
}
