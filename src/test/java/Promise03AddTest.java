public final class Promise03AddTest {
    public static void main(String[] args) {
        Due due = new Due();
        homes(due);
        sizeOfOthersDoesNotMatter(due);
        wrongArguments(due);
        sixty(due);
        reach(due);
        reachByAlignment(due);
        orderOfExceptions(due);
        due.end();
    }

    private static void homes(Due due) {
        CallFrames x = new CallFrames();
        int[][] arguments = {{Due.WORD, 0, 0, 0}, {Due.DOUBLE, 0, 0, 8}, {Due.FLOAT, 0, 0, 16},
            {Due.RECORD, 1, 1, 20}, {Due.RECORD, 6, 2, 24}, {Due.RECORD, 4, 4, 32}, {Due.RECORD, 8, 8, 40},
            {Due.WORD, 0, 0, 48}, {Due.RECORD, 16, 8, 56}, {Due.RECORD, 5, 1, 72}, {Due.RECORD, 4, 4, 80},
            {Due.RECORD, 65536, 4, 84}, {Due.DOUBLE, 0, 0, 65624}};
        for (int[] argument : arguments) {
            due.answer("home of a kind " + argument[0] + " of " + argument[1], argument[3],
                () -> x.add(argument[0], argument[1], argument[2]));
        }
        due.answer("the arguments", arguments.length, () -> x.signature(1));
        x.begin(Due.RECORD, 100, 4, false);
        due.answer("behind the address", 8, () -> x.add(Due.DOUBLE, 0, 0));
        x.begin(Due.RECORD, 100, 4, false);
        due.answer("behind the address", 4, () -> x.add(Due.RECORD, 100, 4));
    }

    private static void sizeOfOthersDoesNotMatter(Due due) {
        for (int edge : Due.EDGES) {
            CallFrames x = new CallFrames();
            due.answer("add(0, edge)", 0, () -> x.add(Due.WORD, edge, 8));
            due.answer("add(1, edge)", 4, () -> x.add(Due.FLOAT, 8, edge));
            due.answer("add(2, edge)", 8, () -> x.add(Due.DOUBLE, edge, edge));
            due.answer("add(0, 8, 8)", 16, () -> x.add(Due.WORD, 8, 8));
            due.answer("add(1, 8, 8)", 20, () -> x.add(Due.FLOAT, 8, 8));
        }
    }

    private static void wrongArguments(Due due) {
        for (int kind : new int[] {Integer.MIN_VALUE, -1, 4, 5, Integer.MAX_VALUE}) {
            due.refusalWithoutTrace("add(" + kind + ", 4, 4)", IllegalArgumentException.class,
                Promise03AddTest::wordAndDouble, x -> x.add(kind, 4, 4));
        }
        int[][] wrong = {{0, 1}, {-4, 4}, {65537, 1}, {65544, 8}, {1, 2}, {7, 4}, {6, 4}, {12, 8}, {8, 0}, {8, 3},
            {9, 3}, {16, 16}, {8, -8}, {8, Integer.MIN_VALUE}, {Integer.MAX_VALUE, 1}, {Integer.MIN_VALUE, 1}};
        for (int[] record : wrong) {
            due.refusalWithoutTrace("add(3, " + record[0] + ", " + record[1] + ")",
                IllegalArgumentException.class, Promise03AddTest::wordAndDouble,
                x -> x.add(Due.RECORD, record[0], record[1]));
        }
    }

    private static void sixty(Due due) {
        CallFrames x = new CallFrames();
        x.begin(Due.RECORD, 4, 4, false);
        for (int i = 0; i < 60; i++) {
            int home = 4 + 4 * i;
            due.answer("add number " + i, home, () -> x.add(Due.WORD, 0, 0));
        }
        due.refusal("add number 60", IllegalStateException.class, () -> x.add(Due.WORD, 0, 0));
        due.answer("arguments", 60, () -> x.signature(1));
        x.begin(Due.VOID, 0, 0, false);
        due.answer("add behind begin", 0, () -> x.add(Due.WORD, 0, 0));
        for (int kind = 0; kind < 4; kind++) {
            int one = kind;
            due.refusalWithoutTrace("one more of kind " + kind, IllegalStateException.class,
                Promise03AddTest::sixtyFloats, y -> y.add(one, 4, 4));
        }
    }

    private static void reach(Due due) {
        due.refusalWithoutTrace("up to 1,000,004", IllegalStateException.class, Promise03AddTest::filled,
            x -> x.add(Due.RECORD, 16964, 4));
        due.refusalWithoutTrace("up to 1,000,001", IllegalStateException.class, Promise03AddTest::filled,
            x -> x.add(Due.RECORD, 16961, 1));
        CallFrames x = filled();
        due.answer("up to 999,997, filled up to 1,000,000", 983040, () -> x.add(Due.RECORD, 16957, 1));
        due.answer("the end", 1000000, () -> x.signature(3));
        due.answer("the area", 1000000, () -> x.signature(0));
        for (int kind = 0; kind < 4; kind++) {
            int one = kind;
            due.refusal("one more of kind " + kind, IllegalStateException.class, () -> x.add(one, 1, 1));
        }
    }

    private static void reachByAlignment(Due due) {
        due.refusalWithoutTrace("a double behind 999,996", IllegalStateException.class, () -> filledBut(4),
            x -> x.add(Due.DOUBLE, 0, 0));
        due.refusalWithoutTrace("a record behind 999,996", IllegalStateException.class, () -> filledBut(4),
            x -> x.add(Due.RECORD, 8, 8));
        CallFrames x = filledBut(4);
        due.answer("999,996 so far", 999996, () -> x.signature(3));
        due.answer("a word behind 999,996", 999996, () -> x.add(Due.WORD, 0, 0));
        due.answer("the end", 1000000, () -> x.signature(3));
    }

    private static void orderOfExceptions(Due due) {
        due.refusalWithoutTrace("no kind, and 60", IllegalArgumentException.class, Promise03AddTest::sixtyFloats,
            x -> x.add(4, 0, 0));
        due.refusalWithoutTrace("no record, and 60", IllegalArgumentException.class, Promise03AddTest::sixtyFloats,
            x -> x.add(Due.RECORD, 3, 2));
        due.refusalWithoutTrace("no record, and too far", IllegalArgumentException.class, Promise03AddTest::filled,
            x -> x.add(Due.RECORD, 65535, 2));
    }

    private static CallFrames wordAndDouble() {
        CallFrames x = new CallFrames();
        x.add(Due.WORD, 0, 0);
        x.add(Due.DOUBLE, 0, 0);
        return x;
    }

    private static CallFrames sixtyFloats() {
        CallFrames x = new CallFrames();
        for (int i = 0; i < 60; i++) {
            x.add(Due.FLOAT, 0, 0);
        }
        return x;
    }

    private static CallFrames filledBut(int bytes) {
        CallFrames x = filled();
        x.add(Due.RECORD, 16960 - bytes, 4);
        return x;
    }

    /** 15 records: 983,040 bytes of homes. */
    private static CallFrames filled() {
        CallFrames x = new CallFrames();
        for (int i = 0; i < 15; i++) {
            x.add(Due.RECORD, 65536, 8);
        }
        return x;
    }
}
