import java.util.function.Consumer;
import java.util.function.IntSupplier;
import java.util.function.Supplier;

/** Counts and prints the answers of one test that are not as due. */
final class Due {
    static final int WORD = 0;
    static final int FLOAT = 1;
    static final int DOUBLE = 2;
    static final int RECORD = 3;
    static final int VOID = 4;
    static final int NONE = -1;

    static final int[] EDGES = {
        Integer.MIN_VALUE, Integer.MIN_VALUE + 1, -2, -1, 0, 1, 2, 3, 4, 5, 59, 60, 61, 1000000,
        Integer.MAX_VALUE - 1, Integer.MAX_VALUE
    };

    private int wrong = 0;
    private String sentence = "";

    /** The document's words that the next answers are asked for; they are printed with each one that is wrong. */
    void sentence(String words) {
        sentence = '"' + words + "\": ";
    }

    void answer(String call, int want, IntSupplier made) {
        try {
            int got = made.getAsInt();
            if (got != want) {
                tell(call, "answered " + got + ", due is " + want);
            }
        } catch (RuntimeException e) {
            tell(call, "threw " + e.getClass().getName() + ", due is " + want);
        }
    }

    /** The exception's class is compared exactly: one below it comes from the machine. */
    void refusal(String call, Class<? extends RuntimeException> want, Runnable made) {
        try {
            made.run();
            tell(call, "threw nothing, due is " + want.getName());
        } catch (RuntimeException e) {
            if (e.getClass() != want) {
                tell(call, "threw " + e.getClass().getName() + ", due is " + want.getName());
            }
        }
    }

    /**
     * A call that throws changes nothing. Two objects with the same past are compared, since asking one of them
     * twice for all that it knows could take more than the 512 calls that the document promises.
     */
    void refusalWithoutTrace(String call, Class<? extends RuntimeException> want, Supplier<CallFrames> past,
        Consumer<CallFrames> refused) {
        CallFrames x = past.get();
        refusal(call, want, () -> refused.accept(x));
        same(call + " leaves the object", wholeState(past.get()), wholeState(x));
    }

    void same(String what, String want, String got) {
        if (!want.equals(got)) {
            tell(what, "gave " + got + ", due is " + want);
        }
    }

    void holds(String what, boolean held) {
        if (!held) {
            tell(what, "does not hold");
        }
    }

    void end() {
        if (wrong != 0) {
            System.out.println(wrong + " answers are not as due");
            System.exit(1);
        }
    }

    /** All that can be asked of an object without changing it. */
    static String state(CallFrames x) {
        return signatureState(x) + frameState(x);
    }

    /** The calls that were told and whether the signature is open, too, which can't be asked without a change. */
    static String wholeState(CallFrames x) {
        String asked = state(x) + " calls " + x.frame(0, 0, 0) + ' ' + x.clear();
        if (x.signature(1) == 0) {
            asked += " first " + x.add(FLOAT, 0, 0) + ' ' + x.where(0, 0);
        }
        return asked;
    }

    static String signatureState(CallFrames x) {
        StringBuilder text = new StringBuilder("signature");
        for (int what = 0; what < 4; what++) {
            text.append(' ').append(x.signature(what));
        }
        int count = x.signature(1);
        for (int argument = -1; argument < count; argument++) {
            text.append(argumentState(x, argument));
        }
        return text.toString();
    }

    static String frameState(CallFrames x) {
        StringBuilder text = new StringBuilder(" frame ").append(x.place(0, 0));
        for (int n = 0; n < 32; n++) {
            text.append(' ').append(x.place(1, n)).append('/').append(x.place(2, n));
        }
        return text.toString();
    }

    /** Only the first words are asked for, so that all of 60 arguments stay within the 512 calls of an object. */
    private static String argumentState(CallFrames x, int argument) {
        StringBuilder text = new StringBuilder(" [");
        try {
            int home = x.about(argument, 0);
            int words = x.about(argument, 2);
            text.append(home).append(' ').append(x.about(argument, 1)).append(' ').append(words);
            for (int k = 0; k < Math.min(home < 16 ? 5 : 1, words); k++) {
                text.append(' ').append(x.where(argument, k));
            }
        } catch (IndexOutOfBoundsException e) {
            text.append("none");
        }
        return text.append(']').toString();
    }

    private void tell(String call, String fault) {
        wrong++;
        System.out.println(sentence + call + " " + fault);
    }
}
