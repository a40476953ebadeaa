/** The term KINDS: what can be an argument or a result, as an argument and as a result alike. */
public final class TermsKindsTest {
    public static void main(String[] args) {
        Due due = new Due();
        kindsOfArguments(due);
        kindsOfResults(due);
        doubles(due);
        recordSizes(due);
        recordAlignments(due);
        recordMultiples(due);
        due.end();
    }

    private static CallFrames used() {
        CallFrames x = new CallFrames();
        x.add(Due.FLOAT, 0, 0);
        x.add(Due.RECORD, 3, 1);
        x.call();
        x.frame(3, 1 << 17, 1 << 24);
        return x;
    }

    private static void takes(Due due, int size, int alignment) {
        String record = "a record of " + size + ", alignment " + alignment;
        CallFrames x = new CallFrames();
        due.answer(record + " as an argument", 0, () -> x.add(Due.RECORD, size, alignment));
        due.answer(record + ": its bytes", size, () -> x.about(0, 1));
        due.answer(record + " as a result", 2, () -> {
            x.begin(Due.RECORD, size, alignment, false);
            return x.signature(2);
        });
    }

    private static void refuses(Due due, int size, int alignment) {
        String record = "a record of " + size + ", alignment " + alignment;
        due.refusalWithoutTrace(record + " as an argument", IllegalArgumentException.class, TermsKindsTest::used,
            x -> x.add(Due.RECORD, size, alignment));
        due.refusalWithoutTrace(record + " as a result", IllegalArgumentException.class, TermsKindsTest::used,
            x -> x.begin(Due.RECORD, size, alignment, true));
    }

    private static void kindsOfArguments(Due due) {
        due.sentence("KINDS: 0 a WORD .. 1 a FLOAT .. 2 a DOUBLE .. 3 a RECORD");
        for (int kind = 0; kind <= 3; kind++) {
            int one = kind;
            due.answer("add of kind " + kind, 0, () -> new CallFrames().add(one, 8, 8));
        }
        for (int kind : new int[] {-1, 4, 5, -2, 8, 256, 1 << 16, 3 | 1 << 31, Integer.MIN_VALUE,
            Integer.MAX_VALUE}) {
            due.refusalWithoutTrace("add of kind " + kind, IllegalArgumentException.class, TermsKindsTest::used,
                x -> x.add(kind, 8, 8));
        }
    }

    private static void kindsOfResults(Due due) {
        due.sentence("as a result also 4 VOID");
        int[] places = {2, 32, 32, 2, Due.NONE};
        for (int kind = 0; kind <= 4; kind++) {
            CallFrames x = used();
            int one = kind;
            due.answer("a result of kind " + kind, places[kind], () -> {
                x.begin(one, 8, 8, false);
                return x.signature(2);
            });
        }
        for (int kind : new int[] {-1, 5, -2, 6, 8, 256, 1 << 16, 4 | 1 << 31, Integer.MIN_VALUE,
            Integer.MAX_VALUE}) {
            due.refusalWithoutTrace("a result of kind " + kind, IllegalArgumentException.class,
                TermsKindsTest::used, x -> x.begin(kind, 8, 8, true));
        }
    }

    private static void doubles(Due due) {
        due.sentence("1 a FLOAT (4 bytes), 2 a DOUBLE (8 bytes, of alignment 8)");
        CallFrames x = new CallFrames();
        due.answer("a float", 0, () -> x.add(Due.FLOAT, 16, 16));
        due.answer("a double behind 4 bytes", 8, () -> x.add(Due.DOUBLE, 4, 4));
        due.answer("a float behind 16 bytes", 16, () -> x.add(Due.FLOAT, 16, 16));
        due.answer("the end", 20, () -> x.signature(3));
        due.answer("bytes of the float", 4, () -> x.about(0, 1));
        due.answer("bytes of the double", 8, () -> x.about(1, 1));
    }

    private static void recordSizes(Due due) {
        due.sentence("a structure or union of 1 to 65,536 bytes");
        for (int alignment : new int[] {1, 2, 4, 8}) {
            takes(due, alignment, alignment);
            takes(due, 2 * alignment, alignment);
            takes(due, 65536 - alignment, alignment);
            takes(due, 65536, alignment);
            refuses(due, 65536 + alignment, alignment);
            refuses(due, 2 * 65536, alignment);
            refuses(due, 0, alignment);
            refuses(due, -alignment, alignment);
            refuses(due, -65536, alignment);
            refuses(due, Integer.MIN_VALUE, alignment);
            refuses(due, Integer.MIN_VALUE + 8, alignment);
            refuses(due, Integer.MAX_VALUE - 7, alignment);
            refuses(due, Integer.MAX_VALUE, alignment);
        }
    }

    private static void recordAlignments(Due due) {
        due.sentence("of alignment 1, 2, 4 or 8");
        // 5,040 is a multiple of 1 to 10, 12, 14, 15, 16: it is the alignment alone that is wrong
        for (int alignment : new int[] {1, 2, 4, 8}) {
            takes(due, 5040, alignment);
            refuses(due, 5040, -alignment);
        }
        for (int alignment : new int[] {0, 3, 5, 6, 7, 9, 10, 12, 14, 15, 16}) {
            refuses(due, 5040, alignment);
        }
        for (int alignment = 16; alignment != 0; alignment <<= 1) {
            refuses(due, 65536, alignment);
        }
        refuses(due, 65536, Integer.MAX_VALUE);
        refuses(due, 1, 0);
    }

    private static void recordMultiples(Due due) {
        due.sentence("its size is a multiple of its alignment");
        for (int alignment : new int[] {1, 2, 4, 8}) {
            for (int size = 1; size <= 24; size++) {
                takesOnlyMultiples(due, size, alignment);
            }
            for (int size = 65536 - 9; size <= 65536; size++) {
                takesOnlyMultiples(due, size, alignment);
            }
        }
    }

    private static void takesOnlyMultiples(Due due, int size, int alignment) {
        if (size % alignment == 0) {
            takes(due, size, alignment);
        } else {
            refuses(due, size, alignment);
        }
    }
}
