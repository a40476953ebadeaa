public final class Promise07CallTest {
    public static void main(String[] args) {
        Due due = new Due();
        greatest(due);
        atTheTimeOfTheCall(due);
        leavesTheRest(due);
        eachArea(due);
        behindARefusedCall(due);
        many(due);
        due.end();
    }

    private static void greatest(Due due) {
        due.sentence("The function calls one of the signature at hand: the greatest AREA so far.");
        CallFrames x = new CallFrames();
        due.answer("call() of nothing", 16, x::call);
        x.add(Due.RECORD, 17, 1);
        due.answer("call() of 17 bytes", 24, x::call);
        x.begin(Due.RECORD, 8, 8, false);
        due.answer("call() of less", 24, x::call);
        x.add(Due.RECORD, 40, 8);
        due.answer("call() of more", 48, x::call);
        due.answer("call() again", 48, x::call);
        due.answer("the locals' place follows", 64, () -> x.frame(1, 0, 0));
        due.answer("clear()", 5, x::clear);
    }

    private static void atTheTimeOfTheCall(Due due) {
        due.sentence("The function calls one of the signature at hand: the greatest AREA so far.");
        CallFrames x = new CallFrames();
        x.call();
        x.add(Due.RECORD, 64, 8);
        due.answer("frame(0, 0, 0)", 24, () -> x.frame(0, 0, 0));
    }

    private static void leavesTheRest(Due due) {
        due.sentence("The function calls one of the signature at hand: the greatest AREA so far.");
        CallFrames x = new CallFrames();
        x.begin(Due.RECORD, 8, 8, true);
        x.add(Due.RECORD, 40, 8);
        x.frame(20, 3 << 16, 1 << 22);
        String before = Due.state(x);
        x.call();
        due.same("the signature and the frame behind call()", before, Due.state(x));
        due.answer("$31 of a frame that was laid out before", Due.NONE, () -> x.place(1, 31));
    }

    private static void eachArea(Due due) {
        due.sentence("The function calls one of the signature at hand: the greatest AREA so far.");
        CallFrames x = new CallFrames();
        x.begin(Due.RECORD, 65536, 8, true);
        due.answer("call() of an address alone", 16, x::call);
        int[] areas = {16, 16, 16, 24, 24, 32, 32};
        for (int i = 0; i < areas.length; i++) {
            x.add(Due.WORD, 0, 0);
            due.answer("call() of an address and " + (i + 1) + " words", areas[i], x::call);
        }
        CallFrames most = new CallFrames();
        for (int i = 0; i < 15; i++) {
            most.add(Due.RECORD, 65536, 8);
        }
        most.add(Due.RECORD, 16960, 8);
        due.answer("call() of the greatest", 1000000, most::call);
        most.begin(Due.VOID, 0, 0, false);
        due.answer("call() of the least behind it", 1000000, most::call);
        due.answer("clear()", 2, most::clear);
        due.answer("call() of the least alone", 16, most::call);
    }

    private static void behindARefusedCall(Due due) {
        due.sentence("a call that throws changes nothing");
        CallFrames x = new CallFrames();
        due.refusal("add", IllegalArgumentException.class, () -> x.add(Due.RECORD, 65537, 1));
        due.refusal("begin", IllegalArgumentException.class, () -> x.begin(Due.RECORD, 0, 1, true));
        due.answer("call() behind what is refused", 16, x::call);
    }

    private static void many(Due due) {
        due.sentence("The function calls one of the signature at hand: the greatest AREA so far.");
        CallFrames x = new CallFrames();
        for (int i = 0; i < 500; i++) {
            due.answer("call() number " + i, 16, x::call);
        }
        due.answer("clear()", 500, x::clear);
    }
}
