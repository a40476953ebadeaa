/** The section "What it is": the last call that is promised is answered like the first. */
public final class ObjectOf512CallsTest {
    private static final int PROMISED_CALLS = 512;

    public static void main(String[] args) {
        Due due = new Due();
        due.sentence("An object is used for at most 512 calls after it has been made");
        allButOneTold(due);
        allTold(due);
        lastCallOfEachMethod(due);
        refusedCallsBefore(due);
        signaturesWithoutEnd(due);
        due.end();
    }

    private static void allButOneTold(Due due) {
        CallFrames x = new CallFrames();
        for (int i = 0; i < PROMISED_CALLS - 1; i++) {
            x.call();
        }
        due.answer("clear() behind 511 calls", 511, x::clear);
    }

    private static void allTold(Due due) {
        CallFrames x = new CallFrames();
        for (int i = 1; i <= PROMISED_CALLS; i++) {
            due.answer("call() number " + i, 16, x::call);
        }
    }

    /** A float and a double, told once, in a frame with $16 and $f20; 511 calls are made. */
    private static CallFrames used() {
        CallFrames x = new CallFrames();
        x.begin(Due.DOUBLE, 0, 0, false);
        x.add(Due.FLOAT, 0, 0);
        x.add(Due.DOUBLE, 0, 0);
        x.call();
        x.frame(1, 1 << 16, 1 << 20);
        for (int i = 5; i < PROMISED_CALLS - 1; i++) {
            x.signature(i % 4);
        }
        return x;
    }

    private static void lastCallOfEachMethod(Due due) {
        due.answer("add as the last call", 16, () -> used().add(Due.RECORD, 65536, 8));
        due.answer("where as the last call", 47, () -> used().where(1, 0));
        due.answer("about as the last call", 8, () -> used().about(1, 0));
        due.answer("signature as the last call", 32, () -> used().signature(2));
        due.answer("call as the last call", 16, () -> used().call());
        due.answer("frame as the last call", 1000104, () -> used().frame(1000000, 0xC0FF0000, 0x55500000));
        due.answer("place as the last call", 36, () -> used().place(1, 31));
        due.answer("clear as the last call", 1, () -> used().clear());
        due.refusal("begin as the last call", IllegalArgumentException.class, () -> used().begin(5, 0, 0, false));
        due.refusal("where as the last call", IndexOutOfBoundsException.class, () -> used().where(2, 0));
    }

    private static void refusedCallsBefore(Due due) {
        CallFrames x = new CallFrames();
        for (int i = 1; i < PROMISED_CALLS; i++) {
            due.refusal("add(4, 0, 0) number " + i, IllegalArgumentException.class, () -> x.add(4, 0, 0));
        }
        due.answer("add behind 511 that were refused", 0, () -> x.add(Due.DOUBLE, 0, 0));
    }

    private static void signaturesWithoutEnd(Due due) {
        CallFrames x = new CallFrames();
        for (int i = 0; i < PROMISED_CALLS - 1; i += 7) {
            x.begin(Due.RECORD, 65536, 8, false);
            for (int k = 0; k < 6; k++) {
                int home = 4 + 65536 * k;
                due.answer("add in signature " + i / 7, home, () -> x.add(Due.RECORD, 65536, 4));
            }
        }
    }
}
