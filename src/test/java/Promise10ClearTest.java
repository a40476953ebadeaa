public final class Promise10ClearTest {
    public static void main(String[] args) {
        Due due = new Due();
        calls(due);
        frame(due);
        signatureStays(due);
        fullSignatureStays(due);
        refusedCallsAreNotTold(due);
        due.end();
    }

    private static void calls(Due due) {
        due.sentence("No calls, .. how many calls were told.");
        CallFrames x = new CallFrames();
        due.answer("clear() of none", 0, x::clear);
        x.add(Due.RECORD, 100, 4);
        x.call();
        x.call();
        x.call();
        due.answer("clear()", 3, x::clear);
        due.answer("clear() again", 0, x::clear);
        due.answer("a frame without calls", 0, () -> x.frame(0, 0, 0));
        due.answer("no $31", Due.NONE, () -> x.place(1, 31));
        x.begin(Due.VOID, 0, 0, false);
        due.answer("call() behind clear()", 16, x::call);
        due.answer("clear() of one", 1, x::clear);
    }

    private static void frame(Due due) {
        due.sentence("a frame without anything");
        CallFrames x = new CallFrames();
        x.call();
        x.frame(50, 0xC0FF0000, 0x55500000);
        x.clear();
        due.same("the frame behind clear()", Due.frameState(new CallFrames()), Due.frameState(x));
        x.frame(50, 0xC0FF0000, 0x55500000);
        due.answer("clear() without calls", 0, x::clear);
        due.same("the frame behind clear()", Due.frameState(new CallFrames()), Due.frameState(x));
    }

    private static void fullSignatureStays(Due due) {
        due.sentence("the signature stays");
        CallFrames x = new CallFrames();
        for (int i = 0; i < 60; i++) {
            x.add(Due.FLOAT, 0, 0);
        }
        due.answer("call() of 60", 240, x::call);
        due.answer("clear() of 60", 1, x::clear);
        due.answer("arguments behind clear()", 60, () -> x.signature(1));
        due.answer("the last home behind clear()", 236, () -> x.about(59, 0));
        due.answer("the second behind clear()", 46, () -> x.where(1, 0));
        due.refusal("add behind clear()", IllegalStateException.class, () -> x.add(Due.WORD, 0, 0));
    }

    private static void refusedCallsAreNotTold(Due due) {
        due.sentence("how many calls were told");
        CallFrames x = new CallFrames();
        x.call();
        x.frame(8, 0, 0);
        x.begin(Due.WORD, 0, 0, false);
        x.add(Due.WORD, 0, 0);
        due.refusal("frame", IllegalArgumentException.class, () -> x.frame(-1, 0, 0));
        due.refusal("add", IllegalArgumentException.class, () -> x.add(4, 0, 0));
        due.answer("clear()", 1, x::clear);
    }

    private static void signatureStays(Due due) {
        due.sentence("the signature stays");
        CallFrames x = new CallFrames();
        x.begin(Due.RECORD, 12, 4, false);
        x.add(Due.DOUBLE, 0, 0);
        x.add(Due.RECORD, 9, 1);
        x.call();
        String before = Due.signatureState(x);
        x.clear();
        due.same("the signature behind clear()", before, Due.signatureState(x));
        due.answer("add behind clear()", 28, () -> x.add(Due.WORD, 0, 0));
        due.answer("call() behind clear()", 32, x::call);
        CallFrames y = new CallFrames();
        y.begin(Due.VOID, 0, 0, true);
        y.clear();
        y.add(Due.FLOAT, 0, 0);
        due.answer("still open behind clear()", 4, () -> y.where(0, 0));
    }
}
