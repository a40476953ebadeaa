/** The term WHERE they are. */
public final class TermsWhereTest {
    private static final int[] FRACTIONAL = {Due.FLOAT, Due.DOUBLE};
    private static final int[] OTHERS = {Due.WORD, Due.RECORD};
    private static final int[] NO_RECORDS = {Due.WORD, Due.FLOAT, Due.DOUBLE, Due.VOID};

    public static void main(String[] args) {
        Due due = new Due();
        first(due);
        second(due);
        secondAlone(due);
        thirdAndLater(due);
        noneOfAnOpenSignature(due);
        noneBehindAnAddress(due);
        registersAndMemory(due);
        recordsInParts(due);
        recordsUpToTheLastRegister(due);
        doublesInRegisters(due);
        due.end();
    }

    private static CallFrames with(int result, boolean open, int... kinds) {
        CallFrames x = new CallFrames();
        x.begin(result, 8, 8, open);
        for (int kind : kinds) {
            x.add(kind, 4, 4);
        }
        return x;
    }

    private static void words(Due due, String what, CallFrames x, int argument, int... places) {
        for (int k = 0; k < places.length; k++) {
            int word = k;
            due.answer(what + ": where(" + argument + ", " + k + ")", places[k], () -> x.where(argument, word));
        }
        due.refusal(what + ": where(" + argument + ", " + places.length + ")", IndexOutOfBoundsException.class,
            () -> x.where(argument, places.length));
        due.refusal(what + ": where(" + argument + ", -1)", IndexOutOfBoundsException.class,
            () -> x.where(argument, -1));
    }

    private static void inFraction(Due due, String what, CallFrames x, int argument, int kind, int register) {
        if (kind == Due.DOUBLE) {
            words(due, what, x, argument, register + 1, register);
        } else {
            words(due, what, x, argument, register);
        }
    }

    private static void first(Due due) {
        due.sentence("the first argument that was added, a float or double, is in $f12");
        for (int result : NO_RECORDS) {
            for (int kind : FRACTIONAL) {
                String what = "result " + result + ", " + kind;
                inFraction(due, what, with(result, false, kind), 0, kind, 44);
                for (int next = 0; next <= 3; next++) {
                    inFraction(due, what + " " + next, with(result, false, kind, next), 0, kind, 44);
                }
            }
        }
        for (int kind : OTHERS) {
            words(due, "first a " + kind, with(Due.VOID, false, kind), 0, 4);
        }
    }

    private static void second(Due due) {
        due.sentence("the second one, too, is in $f14, if both are floats or doubles");
        for (int result : NO_RECORDS) {
            for (int one : FRACTIONAL) {
                for (int two : FRACTIONAL) {
                    String what = "result " + result + ", " + one + " " + two;
                    inFraction(due, what, with(result, false, one, two), 1, two, 46);
                    inFraction(due, what + " 2", with(result, false, one, two, Due.DOUBLE), 1, two, 46);
                }
            }
        }
    }

    private static void secondAlone(Due due) {
        due.sentence("the second one, too, is in $f14, if both are floats or doubles");
        for (int one : OTHERS) {
            words(due, one + " and a float", with(Due.VOID, false, one, Due.FLOAT), 1, 5);
            words(due, one + " and a double", with(Due.VOID, false, one, Due.DOUBLE), 1, 6, 7);
        }
        for (int two : OTHERS) {
            words(due, "a float and " + two, with(Due.VOID, false, Due.FLOAT, two), 1, 5);
            words(due, "a double and " + two, with(Due.VOID, false, Due.DOUBLE, two), 1, 6);
        }
    }

    private static void thirdAndLater(Due due) {
        due.sentence("the first argument that was added, a float or double, is in $f12; the second one, too, is in"
            + " $f14");
        words(due, "three floats", with(Due.VOID, false, 1, 1, 1), 2, 6);
        words(due, "four floats", with(Due.VOID, false, 1, 1, 1, 1), 3, 7);
        words(due, "five floats", with(Due.VOID, false, 1, 1, 1, 1, 1), 4, Due.NONE);
        words(due, "floats and a double", with(Due.VOID, false, 1, 1, 2), 2, 6, 7);
        words(due, "three doubles", with(Due.VOID, false, 2, 2, 2), 2, Due.NONE, Due.NONE);
        words(due, "float, word, float", with(Due.VOID, false, 1, 0, 1), 2, 6);
        words(due, "word, word, float", with(Due.VOID, false, 0, 0, 1), 2, 6);
        words(due, "word, float, float", with(Due.VOID, false, 0, 1, 1), 1, 5);
        words(due, "word, float, float", with(Due.VOID, false, 0, 1, 1), 2, 6);
        words(due, "word, word, double", with(Due.VOID, false, 0, 0, 2), 2, 6, 7);
    }

    private static void noneOfAnOpenSignature(Due due) {
        due.sentence("but none of an OPEN signature");
        for (int result : NO_RECORDS) {
            words(due, "open, a float", with(result, true, 1), 0, 4);
            words(due, "open, a double", with(result, true, 2), 0, 4, 5);
            words(due, "open, two floats", with(result, true, 1, 1), 1, 5);
            words(due, "open, a float and a double", with(result, true, 1, 2), 1, 6, 7);
            words(due, "open, a double and a float", with(result, true, 2, 1), 1, 6);
            words(due, "open, two doubles", with(result, true, 2, 2), 1, 6, 7);
            words(due, "open, three doubles", with(result, true, 2, 2, 2), 2, Due.NONE, Due.NONE);
        }
    }

    private static void noneBehindAnAddress(Due due) {
        due.sentence("or of one whose result is a record");
        for (boolean open : new boolean[] {false, true}) {
            words(due, "address, a float", with(Due.RECORD, open, 1), 0, 5);
            words(due, "address, a double", with(Due.RECORD, open, 2), 0, 6, 7);
            words(due, "address, two floats", with(Due.RECORD, open, 1, 1), 1, 6);
            words(due, "address, a float and a double", with(Due.RECORD, open, 1, 2), 1, 6, 7);
            words(due, "address, a double and a float", with(Due.RECORD, open, 2, 1), 1, Due.NONE);
            words(due, "address, two doubles", with(Due.RECORD, open, 2, 2), 1, Due.NONE, Due.NONE);
            words(due, "the address", with(Due.RECORD, open, 2, 2), -1, 4);
        }
    }

    private static void registersAndMemory(Due due) {
        due.sentence("the words (four bytes) of an argument whose homes begin below 16 are in $4 to $7 (home 0 in $4"
            + " ..), the others in memory, at their homes");
        int[] places = {4, 5, 6, 7, Due.NONE, Due.NONE};
        for (boolean open : new boolean[] {false, true}) {
            CallFrames x = with(Due.VOID, open, 0, 0, 0, 0, 0, 0);
            for (int argument = 0; argument < places.length; argument++) {
                words(due, "six words", x, argument, places[argument]);
            }
            CallFrames y = with(Due.RECORD, open, 0, 0, 0, 0, 0);
            for (int argument = -1; argument < 5; argument++) {
                words(due, "an address and five words", y, argument, places[argument + 1]);
            }
        }
        CallFrames full = with(Due.WORD, false, new int[60]);
        words(due, "60 words", full, 3, 7);
        words(due, "60 words", full, 4, Due.NONE);
        words(due, "60 words", full, 59, Due.NONE);
    }

    private static void recordsInParts(Due due) {
        due.sentence("a record may be partly here, partly there");
        int[][] places = {{4, 5, 6, 7, -1, -1}, {5, 6, 7, -1, -1, -1}, {6, 7, -1, -1, -1, -1},
            {7, -1, -1, -1, -1, -1}, {-1, -1, -1, -1, -1, -1}};
        for (int before = 0; before < places.length; before++) {
            CallFrames x = with(Due.VOID, false, new int[before]);
            x.add(Due.RECORD, 24, 4);
            words(due, "a record of 24 behind " + before + " words", x, before, places[before]);
        }
        int[][] aligned = {{4, 5, 6, 7, -1, -1}, {6, 7, -1, -1, -1, -1}, {6, 7, -1, -1, -1, -1},
            {-1, -1, -1, -1, -1, -1}};
        for (int before = 0; before < aligned.length; before++) {
            CallFrames x = with(Due.VOID, false, new int[before]);
            x.add(Due.RECORD, 24, 8);
            words(due, "a record of 24, alignment 8, behind " + before + " words", x, before, aligned[before]);
        }
        CallFrames behindAnAddress = with(Due.RECORD, false);
        behindAnAddress.add(Due.RECORD, 16, 1);
        words(due, "a record of 16 behind the address", behindAnAddress, 0, 5, 6, 7, Due.NONE);
    }

    private static void recordsUpToTheLastRegister(Due due) {
        due.sentence("a record may be partly here, partly there");
        CallFrames x = new CallFrames();
        x.add(Due.RECORD, 15, 1);
        words(due, "a record of 15", x, 0, 4, 5, 6, 7);
        CallFrames y = new CallFrames();
        y.add(Due.RECORD, 16, 8);
        words(due, "a record of 16", y, 0, 4, 5, 6, 7);
        CallFrames z = new CallFrames();
        z.add(Due.RECORD, 17, 1);
        words(due, "a record of 17", z, 0, 4, 5, 6, 7, Due.NONE);
        CallFrames most = new CallFrames();
        most.add(Due.RECORD, 65536, 8);
        due.answer("the last word of a record of 65,536", Due.NONE, () -> most.where(0, 16383));
        due.refusal("a word behind it", IndexOutOfBoundsException.class, () -> most.where(0, 16384));
    }

    private static void doublesInRegisters(Due due) {
        due.sentence("the words (four bytes) of an argument whose homes begin below 16 are in $4 to $7");
        words(due, "word, double", with(Due.VOID, false, 0, 2), 1, 6, 7);
        words(due, "word, word, double", with(Due.VOID, false, 0, 0, 2), 2, 6, 7);
        words(due, "three words, double", with(Due.VOID, false, 0, 0, 0, 2), 3, Due.NONE, Due.NONE);
        words(due, "word, double, word", with(Due.VOID, false, 0, 2, 0), 2, Due.NONE);
    }
}
