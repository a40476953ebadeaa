/**
 * Calls by the O32 convention of MIPS32: the places of arguments and results,
 * and the layout of the frame of a function that saves registers and calls others.
 */
public final class CallFrames {
    public static final int NONE = -1;

    private static final int WORD = 0;
    private static final int FLOAT = 1;
    private static final int DOUBLE = 2;
    private static final int RECORD = 3;
    private static final int VOID = 4;

    private static final int ADDRESS = -1;
    private static final int MOST_ARGUMENTS = 60;
    private static final int MOST_RECORD_BYTES = 65536;
    private static final int MOST_HOMES = 1000000;
    private static final int MOST_LOCALS = 1000000;
    private static final int LEAST_AREA = 16;

    private static final int HOMES_IN_REGISTERS = 16;
    private static final int FIRST_ARGUMENT_REGISTER = 4;
    private static final int RESULT_REGISTER = 2;
    private static final int FRACTIONS = 32;
    private static final int FIRST_ARGUMENT_FRACTION = FRACTIONS + 12;

    private static final int REGISTERS = 32;
    private static final int GENERAL_BITS = 0xC0FF0000;
    private static final int FRACTION_BITS = 0x55500000;
    private static final int RETURN_ADDRESS_BIT = 1 << 31;

    private final int[] kinds;
    private final int[] homes;
    private final int[] bytes;
    private int count;
    private int result;
    private boolean open;
    private int end;

    private int calls;
    private int greatestArea;

    private int localsPlace;
    private int fractionsPlace;
    private int generalPlace;
    private int savedGeneral;
    private int savedFractions;

    public CallFrames() {
        kinds = new int[MOST_ARGUMENTS];
        homes = new int[MOST_ARGUMENTS];
        bytes = new int[MOST_ARGUMENTS];
        count = 0;
        result = VOID;
        open = false;
        end = 0;
        calls = 0;
        greatestArea = 0;
        localsPlace = 0;
        fractionsPlace = 0;
        generalPlace = 0;
        savedGeneral = 0;
        savedFractions = 0;
    }

    public void begin(int result, int size, int alignment, boolean open) throws IllegalArgumentException {
        if (result < WORD || result > VOID) {
            throw new IllegalArgumentException("no kind of a result");
        }
        if (result == RECORD && !isRecord(size, alignment)) {
            throw new IllegalArgumentException("no such record");
        }
        this.result = result;
        this.open = open;
        count = 0;
        // the address of a record that is the result has the first home
        end = result == RECORD ? 4 : 0;
    }

    public int add(int kind, int size, int alignment) throws IllegalArgumentException, IllegalStateException {
        if (kind < WORD || kind > RECORD) {
            throw new IllegalArgumentException("no kind of an argument");
        }
        if (kind == RECORD && !isRecord(size, alignment)) {
            throw new IllegalArgumentException("no such record");
        }
        if (count < 0 || count >= MOST_ARGUMENTS) {
            throw new IllegalStateException("too many arguments");
        }
        int length = bytesOf(kind, size);
        int home = fill(end, homeAlignment(kind, alignment));
        int behind = home + fill(length, 4);
        if (behind > MOST_HOMES) {
            throw new IllegalStateException("homes reach too far");
        }
        kinds[count] = kind;
        homes[count] = home;
        bytes[count] = length;
        count++;
        end = behind;
        return home;
    }

    public int where(int argument, int k) throws IndexOutOfBoundsException {
        if (!isArgument(argument)) {
            throw new IndexOutOfBoundsException("no such argument");
        }
        if (k < 0 || k >= wordsAt(argument)) {
            throw new IndexOutOfBoundsException("no such word");
        }
        if (isInFraction(argument)) {
            return fractionOf(argument, k);
        }
        return registerOrMemory(homeAt(argument) + 4 * k);
    }

    public int about(int argument, int what) throws IndexOutOfBoundsException {
        if (!isArgument(argument)) {
            throw new IndexOutOfBoundsException("no such argument");
        }
        switch (what) {
            case 0:
                return homeAt(argument);
            case 1:
                return bytesAt(argument);
            case 2:
                return wordsAt(argument);
            default:
                throw new IndexOutOfBoundsException("nothing to tell");
        }
    }

    public int signature(int what) throws IndexOutOfBoundsException {
        switch (what) {
            case 0:
                return areaSize();
            case 1:
                return count;
            case 2:
                return resultPlace();
            case 3:
                return end;
            default:
                throw new IndexOutOfBoundsException("nothing to tell");
        }
    }

    public int call() {
        calls++;
        greatestArea = Math.max(greatestArea, areaSize());
        return greatestArea;
    }

    public int frame(int locals, int general, int fractions) throws IllegalArgumentException {
        if (locals < 0 || locals > MOST_LOCALS) {
            throw new IllegalArgumentException("no such number of locals");
        }
        if ((general & ~GENERAL_BITS) != 0) {
            throw new IllegalArgumentException("no such general register");
        }
        if ((fractions & ~FRACTION_BITS) != 0) {
            throw new IllegalArgumentException("no such fraction");
        }
        // a call overwrites $31, whether or not the caller of this method thought of it
        savedGeneral = calls > 0 ? general | RETURN_ADDRESS_BIT : general;
        savedFractions = fractions;
        localsPlace = fill(greatestArea, 8);
        fractionsPlace = fill(localsPlace + locals, 8);
        generalPlace = fractionsPlace + 8 * Integer.bitCount(savedFractions);
        return fill(generalPlace + 4 * Integer.bitCount(savedGeneral), 8);
    }

    public int place(int what, int n) throws IndexOutOfBoundsException {
        if (n < 0 || n >= REGISTERS) {
            throw new IndexOutOfBoundsException("no such register");
        }
        switch (what) {
            case 0:
                return localsPlace;
            case 1:
                return savedPlace(savedGeneral, n, generalPlace, 4);
            case 2:
                return savedPlace(savedFractions, n, fractionsPlace, 8);
            default:
                throw new IndexOutOfBoundsException("nothing to tell");
        }
    }

    public int clear() {
        int told = calls;
        calls = 0;
        greatestArea = 0;
        localsPlace = 0;
        fractionsPlace = 0;
        generalPlace = 0;
        savedGeneral = 0;
        savedFractions = 0;
        return told;
    }

    private static boolean isRecord(int size, int alignment) {
        if (alignment != 1 && alignment != 2 && alignment != 4 && alignment != 8) {
            return false;
        }
        return size >= 1 && size <= MOST_RECORD_BYTES && fill(size, alignment) == size;
    }

    /** The next multiple of a step that is a power of two. */
    private static int fill(int number, int step) {
        return (number + step - 1) & -step;
    }

    private static int bytesOf(int kind, int size) {
        if (kind == RECORD) {
            return size;
        }
        return kind == DOUBLE ? 8 : 4;
    }

    private static int homeAlignment(int kind, int alignment) {
        return kind == DOUBLE || kind == RECORD && alignment == 8 ? 8 : 4;
    }

    private boolean isArgument(int argument) {
        if (argument == ADDRESS) {
            return result == RECORD;
        }
        return isAdded(argument);
    }

    private boolean isAdded(int argument) {
        return argument >= 0 && argument < count && argument < MOST_ARGUMENTS;
    }

    private int homeAt(int argument) {
        return isAdded(argument) ? homes[argument] : 0;
    }

    // the address of a result is a word like any other
    private int bytesAt(int argument) {
        return isAdded(argument) ? bytes[argument] : 4;
    }

    private int wordsAt(int argument) {
        return fill(bytesAt(argument), 4) / 4;
    }

    private boolean isFractional(int argument) {
        return isAdded(argument) && (kinds[argument] == FLOAT || kinds[argument] == DOUBLE);
    }

    private boolean isInFraction(int argument) {
        if (open || result == RECORD) {
            return false;
        }
        if (argument == 0) {
            return isFractional(0);
        }
        return argument == 1 && isFractional(0) && isFractional(1);
    }

    private int fractionOf(int argument, int k) {
        int lower = FIRST_ARGUMENT_FRACTION + 2 * argument;
        // the upper word of a double comes first, but is in the odd register of its pair
        return wordsAt(argument) == 2 ? lower + 1 - k : lower;
    }

    private static int registerOrMemory(int home) {
        return home < HOMES_IN_REGISTERS ? FIRST_ARGUMENT_REGISTER + home / 4 : NONE;
    }

    private int areaSize() {
        return Math.max(fill(end, 8), LEAST_AREA);
    }

    private int resultPlace() {
        switch (result) {
            case WORD:
            case RECORD:
                return RESULT_REGISTER;
            case FLOAT:
            case DOUBLE:
                return FRACTIONS;
            default:
                return NONE;
        }
    }

    private static int savedPlace(int saved, int n, int first, int step) {
        int bit = 1 << n;
        if ((saved & bit) == 0) {
            return NONE;
        }
        return first + step * Integer.bitCount(saved & (bit - 1));
    }
}
