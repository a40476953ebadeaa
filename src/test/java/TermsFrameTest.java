/** The term FRAME, part by part from its lowest address on. */
public final class TermsFrameTest {
    private static final int GENERAL = 0xC0FF0000;
    private static final int FRACTIONS = 0x55500000;

    public static void main(String[] args) {
        Due due = new Due();
        noAreaWithoutCalls(due);
        greatestArea(due);
        locals(due);
        fractionsAtMultiplesOfEight(due);
        lowestFractionFirst(due);
        lowestGeneralFirst(due);
        generalBehindFractions(due);
        returnAddress(due);
        returnAddressBehindClear(due);
        filledUp(due);
        due.end();
    }

    private static CallFrames calling(int bytes) {
        CallFrames x = new CallFrames();
        x.add(Due.RECORD, bytes, 1);
        x.call();
        return x;
    }

    private static void noAreaWithoutCalls(Due due) {
        due.sentence("the area for the arguments of calls (0 bytes of a function that calls nothing");
        CallFrames x = new CallFrames();
        x.add(Due.RECORD, 65536, 8);
        due.answer("frame(0, 0, 0)", 0, () -> x.frame(0, 0, 0));
        due.answer("frame(1, 0, 0)", 8, () -> x.frame(1, 0, 0));
        due.answer("its locals", 0, () -> x.place(0, 0));
    }

    private static void greatestArea(Due due) {
        due.sentence("otherwise the greatest AREA of those that were told)");
        int[][] areas = {{1, 16}, {16, 16}, {17, 24}, {24, 24}, {25, 32}, {65536, 65536}};
        for (int[] area : areas) {
            CallFrames x = calling(area[0]);
            due.answer("frame of one that calls with " + area[0], area[1] + 8, () -> x.frame(0, 0, 0));
            due.answer("its locals, " + area[0], area[1], () -> x.place(0, 0));
        }
        CallFrames x = calling(17);
        x.begin(Due.VOID, 0, 0, false);
        x.call();
        due.answer("a smaller one behind a greater one", 32, () -> x.frame(0, 0, 0));
        x.add(Due.RECORD, 100, 1);
        due.answer("a greater one that isn't told", 32, () -> x.frame(0, 0, 0));
        x.call();
        due.answer("a greater one that is", 112, () -> x.frame(0, 0, 0));
    }

    private static void locals(Due due) {
        due.sentence("the locals, at the next multiple of 8");
        for (int bytes : new int[] {1, 16, 17, 20, 21, 24, 25, 28, 29}) {
            CallFrames x = calling(bytes);
            x.frame(1, GENERAL, FRACTIONS);
            due.answer("locals behind arguments of " + bytes, bytes <= 16 ? 16 : bytes <= 24 ? 24 : 32,
                () -> x.place(0, 0));
        }
        CallFrames leaf = new CallFrames();
        leaf.frame(1000000, GENERAL, FRACTIONS);
        due.answer("locals of a leaf", 0, () -> leaf.place(0, 0));
    }

    private static void fractionsAtMultiplesOfEight(Due due) {
        due.sentence("the pairs of fractions that are saved (.. 8 bytes each ..), at the next multiple of 8");
        int[] begins = {0, 8, 8, 8, 8, 8, 8, 8, 8, 16, 16};
        for (int locals = 0; locals < begins.length; locals++) {
            int bytes = locals;
            int begin = begins[locals];
            CallFrames x = new CallFrames();
            due.answer("frame(" + locals + ", 0, $f20)", begin + 8, () -> x.frame(bytes, 0, 1 << 20));
            due.answer("$f20 behind locals of " + locals, begin, () -> x.place(2, 20));
            CallFrames y = calling(1);
            due.answer("frame(" + locals + ", 0, $f30), with a call", 16 + begin + 16,
                () -> y.frame(bytes, 0, 1 << 30));
            due.answer("$f30 behind locals of " + locals + ", with a call", 16 + begin, () -> y.place(2, 30));
        }
    }

    private static void lowestFractionFirst(Due due) {
        due.sentence("the pairs of fractions that are saved ($f20, $f22 .. $f30, 8 bytes each, the lowest one first)");
        for (int saved = 0; saved < 64; saved++) {
            int fractions = 0;
            for (int i = 0; i < 6; i++) {
                fractions |= (saved >> i & 1) << 20 + 2 * i;
            }
            CallFrames x = new CallFrames();
            x.frame(0, 0, fractions);
            int next = 0;
            for (int n = 0; n < 32; n++) {
                int fraction = n;
                boolean isSaved = (fractions >>> n & 1) == 1;
                due.answer("place(2, " + n + ") of " + fractions, isSaved ? next : Due.NONE,
                    () -> x.place(2, fraction));
                due.answer("place(1, " + n + ") of fractions alone", Due.NONE, () -> x.place(1, fraction));
                next += isSaved ? 8 : 0;
            }
        }
    }

    private static void lowestGeneralFirst(Due due) {
        due.sentence("the general registers that are saved, 4 bytes each, the lowest number first");
        int[] numbers = {16, 17, 18, 19, 20, 21, 22, 23, 30, 31};
        for (int saved = 0; saved < 1024; saved++) {
            int general = 0;
            for (int i = 0; i < numbers.length; i++) {
                general |= (saved >> i & 1) << numbers[i];
            }
            CallFrames x = new CallFrames();
            x.frame(0, general, 0);
            int next = 0;
            for (int n = 0; n < 32; n++) {
                int register = n;
                boolean isSaved = (general >>> n & 1) == 1;
                due.answer("place(1, " + n + ") of " + general, isSaved ? next : Due.NONE,
                    () -> x.place(1, register));
                due.answer("place(2, " + n + ") of general registers alone", Due.NONE, () -> x.place(2, register));
                next += isSaved ? 4 : 0;
            }
        }
    }

    private static void generalBehindFractions(Due due) {
        due.sentence("at the next multiple of 8; the general registers that are saved, 4 bytes each");
        int[] behind = {0, 8, 8, 8, 8, 8, 8, 8, 8, 16};
        for (int locals = 0; locals < behind.length; locals++) {
            int fractions = 0;
            for (int pairs = 0; pairs <= 6; pairs++) {
                CallFrames x = new CallFrames();
                x.frame(locals, 1 << 23, fractions);
                due.answer("$23 behind locals of " + locals + " and " + pairs + " pairs", behind[locals] + 8 * pairs,
                    () -> x.place(1, 23));
                fractions |= 1 << 20 + 2 * pairs;
            }
        }
    }

    private static void returnAddress(Due due) {
        due.sentence("of a function that calls others $31 is saved also if it isn't told");
        int[][] rows = {{0, 16, 24}, {1 << 31, 16, 24}, {1 << 30, 20, 24}, {3 << 30, 20, 24}, {1 << 16, 20, 24},
            {1 << 16 | 1 << 31, 20, 24}, {3 << 16, 24, 32}, {3 << 16 | 1 << 31, 24, 32},
            {GENERAL & Integer.MAX_VALUE, 52, 56}, {GENERAL, 52, 56}};
        for (int[] row : rows) {
            CallFrames x = calling(1);
            due.answer("frame(0, " + row[0] + ", 0)", row[2], () -> x.frame(0, row[0], 0));
            due.answer("$31 of " + row[0], row[1], () -> x.place(1, 31));
        }
        CallFrames leaf = new CallFrames();
        due.answer("frame of a leaf", 40, () -> leaf.frame(0, GENERAL & Integer.MAX_VALUE, 0));
        due.answer("$31 of a leaf", Due.NONE, () -> leaf.place(1, 31));
        due.answer("frame of a leaf that tells it", 8, () -> leaf.frame(0, 1 << 31, 0));
        due.answer("$31 of a leaf that tells it", 0, () -> leaf.place(1, 31));
    }

    private static void returnAddressBehindClear(Due due) {
        due.sentence("of a function that calls others $31 is saved also if it isn't told");
        CallFrames x = calling(1);
        x.clear();
        due.answer("frame without calls again", 0, () -> x.frame(0, 0, 0));
        due.answer("$31 without calls again", Due.NONE, () -> x.place(1, 31));
        x.call();
        due.answer("frame with a call again", 24, () -> x.frame(0, 0, 0));
        due.answer("$31 with a call again", 16, () -> x.place(1, 31));
        x.begin(Due.VOID, 0, 0, false);
        due.answer("frame behind begin", 24, () -> x.frame(0, 0, 0));
        due.answer("$31 behind begin", 16, () -> x.place(1, 31));
    }

    private static void filledUp(Due due) {
        due.sentence("Its size is all that, filled up to a multiple of 8.");
        int[] behind = {0, 8, 8, 8, 8, 8, 8, 8, 8, 16};
        int[] filled = {0, 8, 8, 16, 16, 24, 24, 32, 32};
        for (int locals = 0; locals < behind.length; locals++) {
            int bytes = locals;
            for (int registers = 0; registers < filled.length; registers++) {
                int general = (1 << registers) - 1 << 16;
                CallFrames x = new CallFrames();
                due.answer("locals of " + locals + ", " + registers + " registers", behind[locals] + filled[registers],
                    () -> x.frame(bytes, general, 0));
                due.answer("locals of " + locals + ", " + registers + " registers, all pairs",
                    behind[locals] + filled[registers] + 48, () -> x.frame(bytes, general, FRACTIONS));
            }
        }
    }
}
