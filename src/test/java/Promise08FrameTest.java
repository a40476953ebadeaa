public final class Promise08FrameTest {
    private static final int GENERAL = 0xC0FF0000;
    private static final int FRACTIONS = 0x55500000;

    public static void main(String[] args) {
        Due due = new Due();
        sizes(due);
        sizesWithCalls(due);
        eachBit(due);
        rightLocals(due);
        wrongLocals(due);
        severalWrong(due);
        laidOutAnew(due);
        largest(due);
        due.end();
    }

    private static void check(Due due, CallFrames x, int locals, int general, int fractions, int want) {
        due.answer("frame(" + locals + ", " + general + ", " + fractions + ")", want,
            () -> x.frame(locals, general, fractions));
    }

    private static void sizes(Due due) {
        due.sentence("Lays the frame out: .. its size.");
        CallFrames x = new CallFrames();
        check(due, x, 0, 0, 0, 0);
        check(due, x, 1, 0, 0, 8);
        check(due, x, 8, 0, 0, 8);
        check(due, x, 9, 0, 0, 16);
        check(due, x, 0, 1 << 16, 0, 8);
        check(due, x, 0, 3 << 16, 0, 8);
        check(due, x, 0, 7 << 16, 0, 16);
        check(due, x, 0, 0, 1 << 20, 8);
        check(due, x, 4, 1 << 16, 0, 16);
        check(due, x, 4, 1 << 16, 1 << 20, 24);
        check(due, x, 0, 1 << 31, 0, 8);
        check(due, x, 0, GENERAL, FRACTIONS, 88);
        check(due, x, 1000000, GENERAL, FRACTIONS, 1000088);
        check(due, x, 999999, 0, 0, 1000000);
        due.answer("no call", 0, x::clear);
    }

    private static void sizesWithCalls(Due due) {
        due.sentence("Lays the frame out: .. its size.");
        CallFrames x = new CallFrames();
        x.call();
        check(due, x, 0, 0, 0, 24);
        check(due, x, 0, 1 << 31, 0, 24);
        check(due, x, 0, 1 << 30, 0, 24);
        check(due, x, 0, 3 << 30, 0, 24);
        check(due, x, 0, 3 << 16, 0, 32);
        check(due, x, 0, 3 << 16 | 1 << 31, 0, 32);
        check(due, x, 1, 1 << 16, 1 << 30, 40);
        check(due, x, 0, GENERAL, FRACTIONS, 104);
    }

    private static void eachBit(Due due) {
        due.sentence("general registers that are saved (bits 16 to 23, 30, 31 of a number), fractions (bits 20, 22"
            + " .. 30)");
        for (int n = 0; n < 32; n++) {
            int bit = 1 << n;
            if (n >= 16 && n <= 23 || n >= 30) {
                check(due, new CallFrames(), 0, bit, 0, 8);
            } else {
                refused(due, 0, bit, 0);
                refused(due, 0, GENERAL | bit, 0);
            }
            if (n >= 20 && n % 2 == 0) {
                check(due, new CallFrames(), 0, 0, bit, 8);
            } else {
                refused(due, 0, 0, bit);
                refused(due, 0, 0, FRACTIONS | bit);
            }
        }
        refused(due, 0, -1, 0);
        refused(due, 0, 0, -1);
        refused(due, 0, FRACTIONS, GENERAL);
    }

    private static void rightLocals(Due due) {
        due.sentence("bytes of locals (0 to 1,000,000)");
        int[][] sizes = {{0, 0}, {1, 8}, {7, 8}, {8, 8}, {9, 16}, {999992, 999992}, {999993, 1000000},
            {999999, 1000000}, {1000000, 1000000}};
        for (int[] size : sizes) {
            CallFrames x = new CallFrames();
            check(due, x, size[0], 0, 0, size[1]);
            check(due, x, size[0], 1 << 16, 0, size[1] + 8);
            x.call();
            check(due, x, size[0], 0, 0, size[1] + 24);
        }
    }

    private static void severalWrong(Due due) {
        due.sentence("IllegalArgumentException: another number or bit.");
        refused(due, -1, 1, 1);
        refused(due, 1000001, -1, -1);
        refused(due, 0, 1 << 15, 1 << 19);
        refused(due, 0, 1 << 24, 1 << 21);
        refused(due, 0, 1 << 29, 1 << 31);
        refused(due, Integer.MIN_VALUE, Integer.MAX_VALUE, Integer.MAX_VALUE);
    }

    private static void wrongLocals(Due due) {
        due.sentence("bytes of locals (0 to 1,000,000)");
        for (int locals : new int[] {Integer.MIN_VALUE, -8, -1, 1000001, 1000008, Integer.MAX_VALUE}) {
            refused(due, locals, 0, 0);
            refused(due, locals, GENERAL, FRACTIONS);
        }
    }

    private static void refused(Due due, int locals, int general, int fractions) {
        due.refusalWithoutTrace("frame(" + locals + ", " + general + ", " + fractions + ")",
            IllegalArgumentException.class, Promise08FrameTest::laidOut,
            x -> x.frame(locals, general, fractions));
    }

    private static CallFrames laidOut() {
        CallFrames x = new CallFrames();
        x.call();
        x.frame(12, 3 << 20, 1 << 30);
        return x;
    }

    private static void laidOutAnew(Due due) {
        due.sentence("Lays the frame out");
        CallFrames x = new CallFrames();
        x.frame(100, GENERAL, FRACTIONS);
        check(due, x, 3, 1 << 17, 0, 16);
        CallFrames y = new CallFrames();
        y.frame(3, 1 << 17, 0);
        due.same("a frame laid out anew", Due.frameState(y), Due.frameState(x));
        due.same("the signature behind frame", Due.signatureState(new CallFrames()), Due.signatureState(x));
    }

    private static void largest(Due due) {
        due.sentence("Lays the frame out: .. its size.");
        CallFrames x = new CallFrames();
        for (int i = 0; i < 15; i++) {
            x.add(Due.RECORD, 65536, 8);
        }
        x.add(Due.RECORD, 16960, 8);
        due.answer("the greatest area", 1000000, x::call);
        check(due, x, 1000000, GENERAL, FRACTIONS, 2000088);
        due.answer("$31 at the end", 2000084, () -> x.place(1, 31));
    }
}
