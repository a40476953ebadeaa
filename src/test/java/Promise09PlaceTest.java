public final class Promise09PlaceTest {
    private static final int GENERAL = 0xC0FF0000;
    private static final int FRACTIONS = 0x55500000;

    public static void main(String[] args) {
        Due due = new Due();
        all(due);
        some(due);
        alignment(due);
        returnAddress(due);
        nothingLaidOut(due);
        laidOutAndLeft(due);
        firstAndLastRegister(due);
        wrongInputs(due);
        due.end();
    }

    private static void all(Due due) {
        due.sentence("where the locals begin (what 0, of any register), register n's (what 1) or fraction n's (what"
            + " 2) place");
        CallFrames x = new CallFrames();
        x.call();
        x.frame(13, GENERAL, FRACTIONS);
        int[] registers = {16, 17, 18, 19, 20, 21, 22, 23, 30, 31};
        String want = "";
        String got = "";
        for (int i = 0; i < registers.length; i++) {
            want += 80 + 4 * i + " ";
            got += x.place(1, registers[i]) + " ";
        }
        for (int i = 0; i < 6; i++) {
            want += 32 + 8 * i + " ";
            got += x.place(2, 20 + 2 * i) + " ";
        }
        due.same("the places of all", want, got);
        for (int n = 0; n < 32; n++) {
            int register = n;
            due.answer("place(0, " + n + ")", 16, () -> x.place(0, register));
            if (n < 16 || n > 23 && n < 30) {
                due.answer("place(1, " + n + ")", Due.NONE, () -> x.place(1, register));
            }
            if (n < 20 || n % 2 == 1) {
                due.answer("place(2, " + n + ")", Due.NONE, () -> x.place(2, register));
            }
        }
    }

    private static void some(Due due) {
        due.sentence("NONE, if it isn't saved");
        CallFrames x = new CallFrames();
        x.frame(4, 1 << 17 | 1 << 23 | 1 << 30, 1 << 22 | 1 << 28);
        due.answer("place(0, 31)", 0, () -> x.place(0, 31));
        due.answer("place(2, 20)", Due.NONE, () -> x.place(2, 20));
        due.answer("place(2, 22)", 8, () -> x.place(2, 22));
        due.answer("place(2, 23)", Due.NONE, () -> x.place(2, 23));
        due.answer("place(2, 28)", 16, () -> x.place(2, 28));
        due.answer("place(2, 30)", Due.NONE, () -> x.place(2, 30));
        due.answer("place(1, 16)", Due.NONE, () -> x.place(1, 16));
        due.answer("place(1, 17)", 24, () -> x.place(1, 17));
        due.answer("place(1, 23)", 28, () -> x.place(1, 23));
        due.answer("place(1, 30)", 32, () -> x.place(1, 30));
        due.answer("place(1, 31)", Due.NONE, () -> x.place(1, 31));
    }

    private static void alignment(Due due) {
        due.sentence("register n's (what 1) or fraction n's (what 2) place");
        CallFrames x = new CallFrames();
        for (int locals = 0; locals <= 24; locals++) {
            int behind = (locals + 7) / 8 * 8;
            x.frame(locals, 1 << 16, 0);
            due.answer("$16 behind " + locals, behind, () -> x.place(1, 16));
            x.frame(locals, 1 << 16, 1 << 20);
            due.answer("$f20 behind " + locals, behind, () -> x.place(2, 20));
            due.answer("$16 behind $f20 and " + locals, behind + 8, () -> x.place(1, 16));
        }
    }

    private static void returnAddress(Due due) {
        due.sentence("register n's (what 1) .. place; NONE, if it isn't saved");
        CallFrames x = new CallFrames();
        x.frame(0, 1 << 16, 0);
        due.answer("$31 of a leaf", Due.NONE, () -> x.place(1, 31));
        x.frame(0, 1 << 16 | 1 << 31, 0);
        due.answer("$31 of a leaf, told", 4, () -> x.place(1, 31));
        x.call();
        x.frame(0, 1 << 16, 0);
        due.answer("$31 of one that calls", 20, () -> x.place(1, 31));
        x.frame(0, 1 << 16 | 1 << 31, 0);
        due.answer("$31 of one that calls, told", 20, () -> x.place(1, 31));
        x.frame(0, 0, 0);
        due.answer("$31 alone", 16, () -> x.place(1, 31));
        due.answer("no $30", Due.NONE, () -> x.place(1, 30));
    }

    private static void nothingLaidOut(Due due) {
        due.sentence("In the frame that was laid out: .. NONE, if it isn't saved.");
        CallFrames x = new CallFrames();
        x.add(Due.RECORD, 40, 8);
        x.call();
        due.answer("place(0, 0) of no frame", 0, () -> x.place(0, 0));
        due.answer("place(1, 31) of no frame", Due.NONE, () -> x.place(1, 31));
        due.answer("place(2, 20) of no frame", Due.NONE, () -> x.place(2, 20));
        due.refusal("place(0, 32) of no frame", IndexOutOfBoundsException.class, () -> x.place(0, 32));
        due.refusal("place(3, 0) of no frame", IndexOutOfBoundsException.class, () -> x.place(3, 0));
    }

    /** What comes behind frame doesn't move what was laid out, until it is laid out anew. */
    private static void laidOutAndLeft(Due due) {
        due.sentence("In the frame that was laid out");
        CallFrames x = new CallFrames();
        x.frame(5, 1 << 16, 1 << 20);
        String before = Due.frameState(x);
        x.add(Due.RECORD, 40, 8);
        x.call();
        x.begin(Due.RECORD, 8, 8, true);
        due.refusal("a frame that is refused", IllegalArgumentException.class, () -> x.frame(-1, 0, 0));
        due.same("the frame behind add, call, begin", before, Due.frameState(x));
        x.frame(5, 1 << 16, 1 << 20);
        due.answer("the locals, laid out anew", 40, () -> x.place(0, 0));
        due.answer("$f20, laid out anew", 48, () -> x.place(2, 20));
        due.answer("$16, laid out anew", 56, () -> x.place(1, 16));
        due.answer("$31, laid out anew", 60, () -> x.place(1, 31));
        x.frame(0, 0, 0);
        due.answer("$f20, no longer saved", Due.NONE, () -> x.place(2, 20));
        due.answer("$16, no longer saved", Due.NONE, () -> x.place(1, 16));
    }

    private static void firstAndLastRegister(Due due) {
        due.sentence("n is not 0 to 31");
        CallFrames x = allSaved();
        due.answer("place(0, 0)", 0, () -> x.place(0, 0));
        due.answer("place(0, 31)", 0, () -> x.place(0, 31));
        due.answer("place(1, 0)", Due.NONE, () -> x.place(1, 0));
        due.answer("place(1, 31)", 92, () -> x.place(1, 31));
        due.answer("place(2, 0)", Due.NONE, () -> x.place(2, 0));
        due.answer("place(2, 30)", 48, () -> x.place(2, 30));
        due.answer("place(2, 31)", Due.NONE, () -> x.place(2, 31));
    }

    private static void wrongInputs(Due due) {
        due.sentence("IndexOutOfBoundsException: another what, or n is not 0 to 31.");
        for (int n : new int[] {Integer.MIN_VALUE, -32, -1, 32, 33, 48, 63, Integer.MAX_VALUE}) {
            for (int what = 0; what < 3; what++) {
                int one = what;
                due.refusalWithoutTrace("place(" + what + ", " + n + ")", IndexOutOfBoundsException.class,
                    Promise09PlaceTest::allSaved, x -> x.place(one, n));
            }
        }
        for (int edge : Due.EDGES) {
            if (edge < 0 || edge > 2) {
                due.refusalWithoutTrace("place(" + edge + ", 16)", IndexOutOfBoundsException.class,
                    Promise09PlaceTest::allSaved, x -> x.place(edge, 16));
            }
        }
    }

    private static CallFrames allSaved() {
        CallFrames x = new CallFrames();
        x.frame(1, GENERAL, FRACTIONS);
        return x;
    }
}
