public final class Promise02BeginTest {
    public static void main(String[] args) {
        Due due = new Due();
        results(due);
        records(due);
        wrongKinds(due);
        wrongRecords(due);
        beginsAnew(due);
        beginsAnewBehindAFullOne(due);
        leavesCallsAndFrame(due);
        due.end();
    }

    private static void results(Due due) {
        due.sentence("Begins a signature: its result (a kind, 4 VOID; of a record size and alignment, which"
            + " otherwise don't matter).");
        int[] places = {2, 32, 32, 2, Due.NONE};
        int[] firstHomes = {0, 0, 0, 4, 0};
        for (int kind = 0; kind <= 4; kind++) {
            CallFrames x = new CallFrames();
            x.begin(kind, 12, 4, false);
            due.answer("result of kind " + kind, places[kind], () -> x.signature(2));
            due.answer("first home, kind " + kind, firstHomes[kind], () -> x.signature(3));
            due.answer("arguments, kind " + kind, 0, () -> x.signature(1));
        }
        for (int kind : new int[] {Due.WORD, Due.FLOAT, Due.DOUBLE, Due.VOID}) {
            CallFrames x = new CallFrames();
            for (int edge : Due.EDGES) {
                x.begin(kind, edge, edge, false);
            }
            due.answer("size and alignment don't matter of kind " + kind, 0, () -> x.signature(3));
        }
    }

    private static void records(Due due) {
        due.sentence("of a record size and alignment");
        int[][] right = {{1, 1}, {3, 1}, {2, 2}, {4, 4}, {8, 8}, {65535, 1}, {65534, 2}, {65532, 4}, {65536, 1},
            {65536, 2}, {65536, 4}, {65536, 8}, {65528, 8}};
        for (int[] record : right) {
            CallFrames x = new CallFrames();
            x.begin(Due.RECORD, record[0], record[1], false);
            due.answer("address of a record of " + record[0], 4, () -> x.where(-1, 0));
            due.answer("result, a record of " + record[0], 2, () -> x.signature(2));
        }
    }

    private static void wrongKinds(Due due) {
        due.sentence("IllegalArgumentException: no kind");
        for (int kind : new int[] {Integer.MIN_VALUE, -2, -1, 5, 6, Integer.MAX_VALUE}) {
            due.refusalWithoutTrace("begin(" + kind + ", 4, 4, true)", IllegalArgumentException.class,
                Promise02BeginTest::used, x -> x.begin(kind, 4, 4, true));
        }
    }

    private static void wrongRecords(Due due) {
        due.sentence("IllegalArgumentException: .. or a record that can't be.");
        int[][] wrong = {{0, 1}, {0, 8}, {-1, 1}, {-8, 8}, {65537, 1}, {65540, 4}, {65544, 8}, {1, 2}, {3, 2}, {7, 4},
            {6, 4}, {12, 8}, {4, 8}, {4, 0}, {4, -1}, {4, -4}, {3, 3}, {16, 16}, {6, 6}, {5, 5}, {7, 7}, {32, 32},
            {Integer.MAX_VALUE, 1}, {Integer.MIN_VALUE, 8}, {8, Integer.MIN_VALUE}, {8, Integer.MAX_VALUE}, {0, 0}};
        for (int[] record : wrong) {
            due.refusalWithoutTrace("begin(3, " + record[0] + ", " + record[1] + ", true)",
                IllegalArgumentException.class, Promise02BeginTest::used,
                x -> x.begin(Due.RECORD, record[0], record[1], true));
        }
    }

    private static void beginsAnew(Due due) {
        due.sentence("Begins a signature");
        CallFrames x = used();
        x.begin(Due.VOID, 0, 0, false);
        due.same("a signature begun anew", Due.signatureState(new CallFrames()), Due.signatureState(x));
        due.refusal("where(0, 0) behind begin", IndexOutOfBoundsException.class, () -> x.where(0, 0));
        x.begin(Due.RECORD, 4, 4, true);
        x.begin(Due.WORD, 0, 0, false);
        due.refusal("where(-1, 0) behind begin", IndexOutOfBoundsException.class, () -> x.where(-1, 0));
        due.answer("add behind begin", 0, () -> x.add(Due.FLOAT, 0, 0));
        due.answer("no longer open", 44, () -> x.where(0, 0));
    }

    private static void beginsAnewBehindAFullOne(Due due) {
        due.sentence("Begins a signature");
        CallFrames x = new CallFrames();
        for (int i = 0; i < 60; i++) {
            x.add(Due.FLOAT, 0, 0);
        }
        x.begin(Due.RECORD, 1, 1, false);
        due.answer("arguments behind 60", 0, () -> x.signature(1));
        due.answer("the area behind 60", 16, () -> x.signature(0));
        due.refusal("about(0, 0) behind 60", IndexOutOfBoundsException.class, () -> x.about(0, 0));
        due.answer("add behind 60", 4, () -> x.add(Due.WORD, 0, 0));
        CallFrames y = new CallFrames();
        for (int i = 0; i < 15; i++) {
            y.add(Due.RECORD, 65536, 8);
        }
        y.add(Due.RECORD, 16960, 8);
        y.begin(Due.VOID, 0, 0, false);
        due.answer("the end behind 1,000,000", 0, () -> y.signature(3));
        due.answer("add behind 1,000,000", 0, () -> y.add(Due.RECORD, 65536, 8));
    }

    private static void leavesCallsAndFrame(Due due) {
        due.sentence("Begins a signature");
        CallFrames x = used();
        String before = Due.frameState(x);
        x.begin(Due.WORD, 0, 0, false);
        due.same("the frame behind begin", before, Due.frameState(x));
        due.answer("call() behind begin", 24, x::call);
        due.answer("clear() behind begin", 2, x::clear);
    }

    private static CallFrames used() {
        CallFrames x = new CallFrames();
        x.begin(Due.DOUBLE, 0, 0, false);
        x.add(Due.FLOAT, 0, 0);
        x.add(Due.DOUBLE, 0, 0);
        x.add(Due.RECORD, 5, 1);
        x.call();
        x.frame(9, 3 << 16, 5 << 20);
        return x;
    }
}
