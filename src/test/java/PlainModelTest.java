import java.util.ArrayList;
import java.util.List;
import java.util.Random;

/** Runs of calls from a fixed seed against the document's words, written as plainly as they stand. */
public final class PlainModelTest {
    private static final class Argument {
        int kind;
        int home;
        int bytes;
    }

    private static final class Model {
        private int result = Due.VOID;
        private boolean open = false;
        private final List<Argument> arguments = new ArrayList<>();
        private final List<Integer> areas = new ArrayList<>();
        private int localsPlace = 0;
        private int[] general = nothingSaved();
        private int[] fractions = nothingSaved();

        static int[] nothingSaved() {
            int[] places = new int[32];
            java.util.Arrays.fill(places, Due.NONE);
            return places;
        }

        static int up(int number, int step) {
            while (number % step != 0) {
                number++;
            }
            return number;
        }

        static void checkRecord(int size, int alignment) {
            boolean aligned = List.of(1, 2, 4, 8).contains(alignment);
            if (!aligned || size < 1 || size > 65536 || size % alignment != 0) {
                throw new IllegalArgumentException();
            }
        }

        void begin(int kind, int size, int alignment, boolean more) {
            if (kind < 0 || kind > 4) {
                throw new IllegalArgumentException();
            }
            if (kind == Due.RECORD) {
                checkRecord(size, alignment);
            }
            result = kind;
            open = more;
            arguments.clear();
        }

        int behind() {
            if (arguments.isEmpty()) {
                return result == Due.RECORD ? 4 : 0;
            }
            Argument last = arguments.get(arguments.size() - 1);
            return last.home + up(last.bytes, 4);
        }

        int add(int kind, int size, int alignment) {
            if (kind < 0 || kind > 3) {
                throw new IllegalArgumentException();
            }
            if (kind == Due.RECORD) {
                checkRecord(size, alignment);
            }
            Argument one = new Argument();
            one.kind = kind;
            one.bytes = kind == Due.RECORD ? size : kind == Due.DOUBLE ? 8 : 4;
            boolean eight = kind == Due.DOUBLE || kind == Due.RECORD && alignment == 8;
            one.home = up(behind(), eight ? 8 : 4);
            if (arguments.size() == 60 || one.home + up(one.bytes, 4) > 1000000) {
                throw new IllegalStateException();
            }
            arguments.add(one);
            return one.home;
        }

        Argument argument(int number) {
            if (number == -1 && result == Due.RECORD) {
                Argument address = new Argument();
                address.kind = Due.WORD;
                address.bytes = 4;
                return address;
            }
            if (number < 0 || number >= arguments.size()) {
                throw new IndexOutOfBoundsException();
            }
            return arguments.get(number);
        }

        boolean isFractional(int number) {
            int kind = arguments.get(number).kind;
            return kind == Due.FLOAT || kind == Due.DOUBLE;
        }

        int where(int number, int k) {
            Argument one = argument(number);
            if (k < 0 || k >= up(one.bytes, 4) / 4) {
                throw new IndexOutOfBoundsException();
            }
            boolean inFractions = !open && result != Due.RECORD && (number == 0 || number == 1);
            for (int before = 0; before <= number && inFractions; before++) {
                inFractions = isFractional(before);
            }
            if (inFractions) {
                int register = 32 + (number == 0 ? 12 : 14);
                return one.kind == Due.DOUBLE && k == 0 ? register + 1 : register;
            }
            for (int register = 4; register <= 7; register++) {
                if ((register - 4) * 4 == one.home + 4 * k) {
                    return register;
                }
            }
            return Due.NONE;
        }

        int about(int number, int what) {
            Argument one = argument(number);
            if (what < 0 || what > 2) {
                throw new IndexOutOfBoundsException();
            }
            return new int[] {one.home, one.bytes, up(one.bytes, 4) / 4}[what];
        }

        int signature(int what) {
            if (what < 0 || what > 3) {
                throw new IndexOutOfBoundsException();
            }
            int place = new int[] {2, 32, 32, 2, Due.NONE}[result];
            return new int[] {Math.max(16, up(behind(), 8)), arguments.size(), place, behind()}[what];
        }

        int call() {
            areas.add(signature(0));
            return greatest();
        }

        int greatest() {
            int most = 0;
            for (int area : areas) {
                most = Math.max(most, area);
            }
            return most;
        }

        int frame(int locals, int generalBits, int fractionBits) {
            if (locals < 0 || locals > 1000000) {
                throw new IllegalArgumentException();
            }
            for (int n = 0; n < 32; n++) {
                boolean isGeneral = n >= 16 && n <= 23 || n == 30 || n == 31;
                boolean isFraction = n >= 20 && n % 2 == 0;
                if ((generalBits >>> n & 1) == 1 && !isGeneral || (fractionBits >>> n & 1) == 1 && !isFraction) {
                    throw new IllegalArgumentException();
                }
            }
            general = nothingSaved();
            fractions = nothingSaved();
            localsPlace = up(greatest(), 8);
            int next = up(localsPlace + locals, 8);
            for (int n = 0; n < 32; n++) {
                if ((fractionBits >>> n & 1) == 1) {
                    fractions[n] = next;
                    next += 8;
                }
            }
            for (int n = 0; n < 32; n++) {
                if ((generalBits >>> n & 1) == 1 || n == 31 && !areas.isEmpty()) {
                    general[n] = next;
                    next += 4;
                }
            }
            return up(next, 8);
        }

        int place(int what, int n) {
            if (what < 0 || what > 2 || n < 0 || n > 31) {
                throw new IndexOutOfBoundsException();
            }
            return what == 0 ? localsPlace : what == 1 ? general[n] : fractions[n];
        }

        int clear() {
            int told = areas.size();
            areas.clear();
            localsPlace = 0;
            general = nothingSaved();
            fractions = nothingSaved();
            return told;
        }
    }

    private static final int PROMISED_CALLS = 512;
    private static final Random RANDOM = new Random(32);

    private static int pick(int... numbers) {
        return numbers[RANDOM.nextInt(numbers.length)];
    }

    private static int between(int least, int most) {
        return least + RANDOM.nextInt(most - least + 1);
    }

    private interface Made {
        int of(boolean model);
    }

    private static String answer(Made made, boolean model) {
        try {
            return Integer.toString(made.of(model));
        } catch (RuntimeException e) {
            return e.getClass().getName();
        }
    }

    private static void both(Due due, String call, Made made) {
        due.same(call, answer(made, true), answer(made, false));
    }

    private static int bits(int allowed) {
        int some = RANDOM.nextInt() & allowed;
        return between(0, 19) == 0 ? some | 1 << between(0, 31) : some;
    }

    private static void change(Due due, CallFrames x, Model m, int step) {
        int kind = between(0, 30) == 0 ? pick(-1, 4, 5) : between(0, 3);
        int alignment = between(0, 30) == 0 ? pick(0, 3, 16, -8) : pick(1, 2, 4, 8);
        int size = alignment * between(0, pick(3, 9, 9, 9000)) + (between(0, 30) == 0 ? 1 : 0);
        if (step < 70) {
            both(due, "add(" + kind + ", " + size + ", " + alignment + ")",
                model -> model ? m.add(kind, size, alignment) : x.add(kind, size, alignment));
        } else if (step < 75) {
            int result = between(0, 30) == 0 ? pick(-1, 5) : between(0, 4);
            boolean open = between(0, 3) == 0;
            both(due, "begin(" + result + ", " + size + ", " + alignment + ", " + open + ")", model -> {
                if (model) {
                    m.begin(result, size, alignment, open);
                } else {
                    x.begin(result, size, alignment, open);
                }
                return 0;
            });
        } else if (step < 85) {
            both(due, "call()", model -> model ? m.call() : x.call());
        } else if (step < 97) {
            int locals = pick(0, between(0, 40), between(-1, 1000001), 1000000, 1000001, -1);
            int general = bits(0xC0FF0000);
            int fractions = bits(0x55500000);
            both(due, "frame(" + locals + ", " + general + ", " + fractions + ")",
                model -> model ? m.frame(locals, general, fractions) : x.frame(locals, general, fractions));
        } else {
            both(due, "clear()", model -> model ? m.clear() : x.clear());
        }
    }

    private static void ask(Due due, CallFrames x, Model m) {
        int number = between(-2, m.arguments.size());
        int k = pick(-1, 0, 0, 1, 1, 2, 3, 4, between(0, 16385));
        int what = between(-1, 4);
        int n = between(-1, 32);
        switch (between(0, 4)) {
            case 0:
                both(due, "about(" + number + ", " + what + ")",
                    model -> model ? m.about(number, what) : x.about(number, what));
                break;
            case 1:
                both(due, "signature(" + what + ")", model -> model ? m.signature(what) : x.signature(what));
                break;
            case 2:
                both(due, "place(" + what + ", " + n + ")", model -> model ? m.place(what, n) : x.place(what, n));
                break;
            default:
                both(due, "where(" + number + ", " + k + ")", model -> model ? m.where(number, k) : x.where(number, k));
        }
    }

    /** Runs whose changes are mostly adds reach the limits of a signature. */
    private static void run(Due due, boolean mostlyAdds, int changesInTen) {
        CallFrames x = new CallFrames();
        Model m = new Model();
        for (int call = 0; call < PROMISED_CALLS; call++) {
            if (between(0, 9) < changesInTen) {
                change(due, x, m, mostlyAdds && call % 50 != 0 ? 0 : RANDOM.nextInt(100));
            } else {
                ask(due, x, m);
            }
        }
    }

    public static void main(String[] args) {
        Due due = new Due();
        for (int i = 0; i < 2000; i++) {
            run(due, i % 4 == 0, pick(1, 3, 6));
        }
        due.end();
    }
}
