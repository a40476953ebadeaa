public final class Promise03AddTest {
    public static void main(String[] args) {
        Due due = new Due();
        homes(due);
        sizeOfOthersDoesNotMatter(due);
        wrongArguments(due);
        sixty(due);
        reach(due);
        reachOfEachKind(due);
        reachByAlignment(due);
        reachBehindAnAddress(due);
        reachOfTheSixtieth(due);
        orderOfExceptions(due);
        due.end();
    }

    private static void homes(Due due) {
        due.sentence("One more argument (..): its home.");
        CallFrames x = new CallFrames();
        int[][] arguments = {{Due.WORD, 0, 0, 0}, {Due.DOUBLE, 0, 0, 8}, {Due.FLOAT, 0, 0, 16},
            {Due.RECORD, 1, 1, 20}, {Due.RECORD, 6, 2, 24}, {Due.RECORD, 4, 4, 32}, {Due.RECORD, 8, 8, 40},
            {Due.WORD, 0, 0, 48}, {Due.RECORD, 16, 8, 56}, {Due.RECORD, 5, 1, 72}, {Due.RECORD, 4, 4, 80},
            {Due.RECORD, 65536, 4, 84}, {Due.DOUBLE, 0, 0, 65624}};
        for (int[] argument : arguments) {
            due.answer("home of a kind " + argument[0] + " of " + argument[1], argument[3],
                () -> x.add(argument[0], argument[1], argument[2]));
        }
        due.answer("the arguments", arguments.length, () -> x.signature(1));
        x.begin(Due.RECORD, 100, 4, false);
        due.answer("behind the address", 8, () -> x.add(Due.DOUBLE, 0, 0));
        x.begin(Due.RECORD, 100, 4, false);
        due.answer("behind the address", 4, () -> x.add(Due.RECORD, 100, 4));
    }

    private static void sizeOfOthersDoesNotMatter(Due due) {
        due.sentence("size and alignment matter of a record alone");
        for (int edge : Due.EDGES) {
            CallFrames x = new CallFrames();
            due.answer("add(0, edge)", 0, () -> x.add(Due.WORD, edge, 8));
            due.answer("add(1, edge)", 4, () -> x.add(Due.FLOAT, 8, edge));
            due.answer("add(2, edge)", 8, () -> x.add(Due.DOUBLE, edge, edge));
            due.answer("add(0, 8, 8)", 16, () -> x.add(Due.WORD, 8, 8));
            due.answer("add(1, 8, 8)", 20, () -> x.add(Due.FLOAT, 8, 8));
        }
    }

    private static void wrongArguments(Due due) {
        due.sentence("IllegalArgumentException: no kind (0 to 3), or a record that can't be");
        for (int kind : new int[] {Integer.MIN_VALUE, -1, 4, 5, Integer.MAX_VALUE}) {
            due.refusalWithoutTrace("add(" + kind + ", 4, 4)", IllegalArgumentException.class,
                Promise03AddTest::wordAndDouble, x -> x.add(kind, 4, 4));
        }
        int[][] wrong = {{0, 1}, {-4, 4}, {65537, 1}, {65544, 8}, {1, 2}, {7, 4}, {6, 4}, {12, 8}, {8, 0}, {8, 3},
            {9, 3}, {16, 16}, {8, -8}, {8, Integer.MIN_VALUE}, {Integer.MAX_VALUE, 1}, {Integer.MIN_VALUE, 1}};
        for (int[] record : wrong) {
            due.refusalWithoutTrace("add(3, " + record[0] + ", " + record[1] + ")",
                IllegalArgumentException.class, Promise03AddTest::wordAndDouble,
                x -> x.add(Due.RECORD, record[0], record[1]));
        }
    }

    private static void sixty(Due due) {
        due.sentence("IllegalStateException: there are 60");
        CallFrames x = new CallFrames();
        x.begin(Due.RECORD, 4, 4, false);
        for (int i = 0; i < 60; i++) {
            int home = 4 + 4 * i;
            due.answer("add number " + i, home, () -> x.add(Due.WORD, 0, 0));
        }
        due.refusal("add number 60", IllegalStateException.class, () -> x.add(Due.WORD, 0, 0));
        due.answer("arguments", 60, () -> x.signature(1));
        x.begin(Due.VOID, 0, 0, false);
        due.answer("add behind begin", 0, () -> x.add(Due.WORD, 0, 0));
        for (int kind = 0; kind < 4; kind++) {
            int one = kind;
            due.refusalWithoutTrace("one more of kind " + kind, IllegalStateException.class,
                Promise03AddTest::sixtyFloats, y -> y.add(one, 4, 4));
        }
    }

    private static void reach(Due due) {
        due.sentence("IllegalStateException: .. or homes would reach beyond 1,000,000.");
        due.refusalWithoutTrace("up to 1,000,004", IllegalStateException.class, Promise03AddTest::filled,
            x -> x.add(Due.RECORD, 16964, 4));
        due.refusalWithoutTrace("up to 1,000,001", IllegalStateException.class, Promise03AddTest::filled,
            x -> x.add(Due.RECORD, 16961, 1));
        CallFrames x = filled();
        due.answer("up to 999,997, filled up to 1,000,000", 983040, () -> x.add(Due.RECORD, 16957, 1));
        due.answer("the end", 1000000, () -> x.signature(3));
        due.answer("the area", 1000000, () -> x.signature(0));
        for (int kind = 0; kind < 4; kind++) {
            int one = kind;
            due.refusal("one more of kind " + kind, IllegalStateException.class, () -> x.add(one, 1, 1));
        }
    }

    /** Behind an end: the last one that is allowed has its home there; one word later it is refused. */
    private static void reachOfEachKind(Due due) {
        due.sentence("IllegalStateException: .. or homes would reach beyond 1,000,000.");
        int[][] lasts = {{Due.WORD, 0, 0, 4}, {Due.FLOAT, 0, 0, 4}, {Due.DOUBLE, 0, 0, 8}, {Due.RECORD, 1, 1, 4},
            {Due.RECORD, 4, 4, 4}, {Due.RECORD, 5, 1, 8}, {Due.RECORD, 8, 4, 8}, {Due.RECORD, 8, 8, 8},
            {Due.RECORD, 16384, 8, 16384}};
        for (int[] last : lasts) {
            String what = "kind " + last[0] + " of " + last[1] + ", alignment " + last[2];
            CallFrames x = filledBut(last[3]);
            due.answer("the last, " + what, 1000000 - last[3], () -> x.add(last[0], last[1], last[2]));
            due.answer("the end, " + what, 1000000, () -> x.signature(3));
            due.answer("the area, " + what, 1000000, () -> x.signature(0));
            due.refusalWithoutTrace("one word later, " + what, IllegalStateException.class,
                () -> filledBut(last[3] - 4), y -> y.add(last[0], last[1], last[2]));
            CallFrames z = filledBut(last[3]);
            due.refusal("one that is too long", IllegalStateException.class,
                () -> z.add(Due.RECORD, last[3] + 1, 1));
            due.answer("behind one that is refused, " + what, 1000000 - last[3],
                () -> z.add(last[0], last[1], last[2]));
        }
    }

    private static void reachBehindAnAddress(Due due) {
        due.sentence("IllegalStateException: .. or homes would reach beyond 1,000,000.");
        CallFrames x = new CallFrames();
        x.begin(Due.RECORD, 65536, 8, false);
        for (int i = 0; i < 15; i++) {
            x.add(Due.RECORD, 65536, 4);
        }
        due.refusal("up to 1,000,004", IllegalStateException.class, () -> x.add(Due.RECORD, 16960, 4));
        due.answer("up to 1,000,000", 983044, () -> x.add(Due.RECORD, 16956, 4));
        due.refusal("a word more", IllegalStateException.class, () -> x.add(Due.WORD, 0, 0));
    }

    private static void reachOfTheSixtieth(Due due) {
        due.sentence("IllegalStateException: there are 60, or homes would reach beyond 1,000,000.");
        CallFrames x = new CallFrames();
        for (int i = 0; i < 59; i++) {
            x.add(Due.RECORD, 16668, 4);
        }
        due.refusal("the 60th up to 1,000,004", IllegalStateException.class, () -> x.add(Due.RECORD, 16592, 4));
        due.answer("the 60th up to 1,000,000", 983412, () -> x.add(Due.RECORD, 16588, 4));
        due.answer("the arguments", 60, () -> x.signature(1));
        due.answer("the end", 1000000, () -> x.signature(3));
    }

    private static void reachByAlignment(Due due) {
        due.sentence("IllegalStateException: .. or homes would reach beyond 1,000,000.");
        due.refusalWithoutTrace("a double behind 999,996", IllegalStateException.class, () -> filledBut(4),
            x -> x.add(Due.DOUBLE, 0, 0));
        due.refusalWithoutTrace("a record behind 999,996", IllegalStateException.class, () -> filledBut(4),
            x -> x.add(Due.RECORD, 8, 8));
        CallFrames x = filledBut(4);
        due.answer("999,996 so far", 999996, () -> x.signature(3));
        due.answer("a word behind 999,996", 999996, () -> x.add(Due.WORD, 0, 0));
        due.answer("the end", 1000000, () -> x.signature(3));
    }

    private static void orderOfExceptions(Due due) {
        due.sentence("Of several exceptions the first one told is thrown");
        due.refusalWithoutTrace("no kind, and 60", IllegalArgumentException.class, Promise03AddTest::sixtyFloats,
            x -> x.add(4, 0, 0));
        due.refusalWithoutTrace("no record, and 60", IllegalArgumentException.class, Promise03AddTest::sixtyFloats,
            x -> x.add(Due.RECORD, 3, 2));
        due.refusalWithoutTrace("no record, and too far", IllegalArgumentException.class, Promise03AddTest::filled,
            x -> x.add(Due.RECORD, 65535, 2));
    }

    private static CallFrames wordAndDouble() {
        CallFrames x = new CallFrames();
        x.add(Due.WORD, 0, 0);
        x.add(Due.DOUBLE, 0, 0);
        return x;
    }

    private static CallFrames sixtyFloats() {
        CallFrames x = new CallFrames();
        for (int i = 0; i < 60; i++) {
            x.add(Due.FLOAT, 0, 0);
        }
        return x;
    }

    /** Homes up to 1,000,000 but for some bytes: up to 983,040 and further. */
    private static CallFrames filledBut(int bytes) {
        CallFrames x = filled();
        x.add(Due.RECORD, 16960 - bytes, 4);
        return x;
    }

    /** 15 records: 983,040 bytes of homes. */
    private static CallFrames filled() {
        CallFrames x = new CallFrames();
        for (int i = 0; i < 15; i++) {
            x.add(Due.RECORD, 65536, 8);
        }
        return x;
    }
}
