import java.util.LinkedHashMap;
import java.util.Map;
import java.util.function.Consumer;
import java.util.function.Supplier;

/** "Of several exceptions the first one told is thrown; a call that throws changes nothing.": each call, each past. */
public final class TermsRefusalsTest {
    private static final int GENERAL = 0xC0FF0000;
    private static final int FRACTIONS = 0x55500000;

    public static void main(String[] args) {
        Due due = new Due();
        firstOneTold(due);
        changesNothing(due);
        refusedInARow(due);
        due.end();
    }

    private static Map<String, Supplier<CallFrames>> pasts() {
        Map<String, Supplier<CallFrames>> pasts = new LinkedHashMap<>();
        pasts.put("new", CallFrames::new);
        pasts.put("open", TermsRefusalsTest::open);
        pasts.put("used", TermsRefusalsTest::used);
        pasts.put("with an address", TermsRefusalsTest::withAnAddress);
        pasts.put("with 60", TermsRefusalsTest::sixty);
        pasts.put("up to 1,000,000", TermsRefusalsTest::reaching);
        pasts.put("cleared", TermsRefusalsTest::cleared);
        return pasts;
    }

    private static CallFrames open() {
        CallFrames x = new CallFrames();
        x.begin(Due.FLOAT, 0, 0, true);
        return x;
    }

    private static CallFrames used() {
        CallFrames x = new CallFrames();
        x.begin(Due.DOUBLE, 0, 0, false);
        x.add(Due.DOUBLE, 0, 0);
        x.add(Due.FLOAT, 0, 0);
        x.add(Due.RECORD, 5, 1);
        x.call();
        x.call();
        x.frame(13, GENERAL, FRACTIONS);
        return x;
    }

    private static CallFrames withAnAddress() {
        CallFrames x = new CallFrames();
        x.begin(Due.RECORD, 12, 4, false);
        x.add(Due.RECORD, 40, 8);
        x.frame(1, 5 << 16, 1 << 22);
        x.call();
        return x;
    }

    private static CallFrames sixty() {
        CallFrames x = new CallFrames();
        for (int i = 0; i < 60; i++) {
            x.add(i % 2 == 0 ? Due.FLOAT : Due.DOUBLE, 0, 0);
        }
        x.call();
        x.frame(1000000, 0, 0);
        return x;
    }

    private static CallFrames reaching() {
        CallFrames x = new CallFrames();
        x.begin(Due.WORD, 0, 0, true);
        for (int i = 0; i < 15; i++) {
            x.add(Due.RECORD, 65536, 8);
        }
        x.add(Due.RECORD, 16960, 8);
        x.call();
        return x;
    }

    private static CallFrames cleared() {
        CallFrames x = used();
        x.clear();
        return x;
    }

    private static void firstOneTold(Due due) {
        due.sentence("Of several exceptions the first one told is thrown");
        for (String past : new String[] {"with 60", "up to 1,000,000"}) {
            Supplier<CallFrames> made = pasts().get(past);
            for (int kind : new int[] {-1, 4, Integer.MIN_VALUE, Integer.MAX_VALUE}) {
                due.refusalWithoutTrace(past + ": add(" + kind + ", 4, 4)", IllegalArgumentException.class, made,
                    x -> x.add(kind, 4, 4));
            }
            for (int[] record : new int[][] {{0, 1}, {65537, 1}, {3, 2}, {6, 4}, {12, 8}, {8, 0}, {8, 3}, {16, 16}}) {
                due.refusalWithoutTrace(past + ": add(3, " + record[0] + ", " + record[1] + ")",
                    IllegalArgumentException.class, made, x -> x.add(Due.RECORD, record[0], record[1]));
            }
            for (int kind = 0; kind <= 3; kind++) {
                int one = kind;
                due.refusalWithoutTrace(past + ": add(" + kind + ", 8, 8)", IllegalStateException.class, made,
                    x -> x.add(one, 8, 8));
            }
        }
    }

    private static Map<String, Consumer<CallFrames>> wrongArguments() {
        Map<String, Consumer<CallFrames>> calls = new LinkedHashMap<>();
        calls.put("begin(-1, 8, 8, true)", x -> x.begin(-1, 8, 8, true));
        calls.put("begin(5, 8, 8, false)", x -> x.begin(5, 8, 8, false));
        calls.put("begin(3, 0, 1, true)", x -> x.begin(3, 0, 1, true));
        calls.put("begin(3, 65537, 1, true)", x -> x.begin(3, 65537, 1, true));
        calls.put("begin(3, 12, 8, false)", x -> x.begin(3, 12, 8, false));
        calls.put("begin(3, 16, 16, true)", x -> x.begin(3, 16, 16, true));
        calls.put("add(-1, 8, 8)", x -> x.add(-1, 8, 8));
        calls.put("add(4, 8, 8)", x -> x.add(4, 8, 8));
        calls.put("add(3, 0, 4)", x -> x.add(3, 0, 4));
        calls.put("add(3, 65540, 4)", x -> x.add(3, 65540, 4));
        calls.put("add(3, 2, 4)", x -> x.add(3, 2, 4));
        calls.put("add(3, 3, 3)", x -> x.add(3, 3, 3));
        calls.put("frame(-1, 0, 0)", x -> x.frame(-1, 0, 0));
        calls.put("frame(1000001, 0, 0)", x -> x.frame(1000001, 0, 0));
        calls.put("frame(40, $16 and $24, 0)", x -> x.frame(40, 1 << 16 | 1 << 24, 0));
        calls.put("frame(40, $16, $f20 and $f21)", x -> x.frame(40, 1 << 16, 3 << 20));
        return calls;
    }

    private static Map<String, Consumer<CallFrames>> wrongIndices() {
        Map<String, Consumer<CallFrames>> calls = new LinkedHashMap<>();
        calls.put("where(-2, 0)", x -> x.where(-2, 0));
        calls.put("where(60, 0)", x -> x.where(60, 0));
        calls.put("where(-1, 1)", x -> x.where(-1, 1));
        calls.put("where(0, -1)", x -> x.where(0, -1));
        calls.put("where(0, 16384)", x -> x.where(0, 16384));
        calls.put("about(-2, 0)", x -> x.about(-2, 0));
        calls.put("about(60, 0)", x -> x.about(60, 0));
        calls.put("about(0, -1)", x -> x.about(0, -1));
        calls.put("about(0, 3)", x -> x.about(0, 3));
        calls.put("signature(-1)", x -> x.signature(-1));
        calls.put("signature(4)", x -> x.signature(4));
        calls.put("place(-1, 16)", x -> x.place(-1, 16));
        calls.put("place(3, 16)", x -> x.place(3, 16));
        calls.put("place(0, -1)", x -> x.place(0, -1));
        calls.put("place(1, 32)", x -> x.place(1, 32));
        calls.put("place(2, 32)", x -> x.place(2, 32));
        calls.put("place(-1, 32)", x -> x.place(-1, 32));
        return calls;
    }

    private static void changesNothing(Due due) {
        due.sentence("a call that throws changes nothing");
        pasts().forEach((past, made) -> {
            wrongArguments().forEach((call, refused) ->
                due.refusalWithoutTrace(past + ": " + call, IllegalArgumentException.class, made, refused));
            wrongIndices().forEach((call, refused) ->
                due.refusalWithoutTrace(past + ": " + call, IndexOutOfBoundsException.class, made, refused));
        });
    }

    /** All of them one behind the other on one object, which must still answer like one that was never asked. */
    private static void refusedInARow(Due due) {
        due.sentence("a call that throws changes nothing");
        pasts().forEach((past, made) -> {
            CallFrames x = made.get();
            wrongArguments().forEach((call, refused) ->
                due.refusal(past + ": " + call, IllegalArgumentException.class, () -> refused.accept(x)));
            wrongIndices().forEach((call, refused) ->
                due.refusal(past + ": " + call, IndexOutOfBoundsException.class, () -> refused.accept(x)));
            due.same(past + " behind all that is refused", Due.wholeState(made.get()), Due.wholeState(x));
        });
    }
}
