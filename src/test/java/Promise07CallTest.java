public final class Promise07CallTest {
    public static void main(String[] args) {
        Due due = new Due();
        greatest(due);
        atTheTimeOfTheCall(due);
        leavesTheRest(due);
        many(due);
        due.end();
    }

    private static void greatest(Due due) {
        CallFrames x = new CallFrames();
        due.answer("call() of nothing", 16, x::call);
        x.add(Due.RECORD, 17, 1);
        due.answer("call() of 17 bytes", 24, x::call);
        x.begin(Due.RECORD, 8, 8, false);
        due.answer("call() of less", 24, x::call);
        x.add(Due.RECORD, 40, 8);
        due.answer("call() of more", 48, x::call);
        due.answer("call() again", 48, x::call);
        due.answer("the locals' place follows", 64, () -> x.frame(1, 0, 0));
        due.answer("clear()", 5, x::clear);
    }

    private static void atTheTimeOfTheCall(Due due) {
        CallFrames x = new CallFrames();
        x.call();
        x.add(Due.RECORD, 64, 8);
        due.answer("frame(0, 0, 0)", 24, () -> x.frame(0, 0, 0));
    }

    private static void leavesTheRest(Due due) {
        CallFrames x = new CallFrames();
        x.begin(Due.RECORD, 8, 8, true);
        x.add(Due.RECORD, 40, 8);
        x.frame(20, 3 << 16, 1 << 22);
        String before = Due.state(x);
        x.call();
        due.same("the signature and the frame behind call()", before, Due.state(x));
        due.answer("$31 of a frame that was laid out before", Due.NONE, () -> x.place(1, 31));
    }

    private static void many(Due due) {
        CallFrames x = new CallFrames();
        for (int i = 0; i < 500; i++) {
            due.answer("call() number " + i, 16, x::call);
        }
        due.answer("clear()", 500, x::clear);
    }
}
