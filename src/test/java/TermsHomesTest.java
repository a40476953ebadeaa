/** The term HOMES, and the AREA. */
public final class TermsHomesTest {
    public static void main(String[] args) {
        Due due = new Due();
        oneBehindTheOther(due);
        multiplesOfEight(due);
        multiplesOfFour(due);
        homesBehindTheAddress(due);
        recordsFilledUp(due);
        areaOfWords(due);
        areaOfRecords(due);
        areaOfAnAddress(due);
        due.end();
    }

    private static CallFrames words(int count) {
        CallFrames x = new CallFrames();
        for (int i = 0; i < count; i++) {
            x.add(Due.WORD, 0, 0);
        }
        return x;
    }

    private static void oneBehindTheOther(Due due) {
        due.sentence("each argument has a place in the caller's area, from 0 on, one behind the other");
        for (int kind = 0; kind <= 3; kind++) {
            int one = kind;
            int step = kind == Due.DOUBLE ? 8 : kind == Due.RECORD ? 12 : 4;
            CallFrames x = new CallFrames();
            for (int i = 0; i < 60; i++) {
                int home = step * i;
                due.answer("add of kind " + kind + ", number " + i, home, () -> x.add(one, 12, 4));
            }
        }
    }

    /** Behind 0 to 5 words: the home of what is added, and the end behind it. */
    private static void check(Due due, int kind, int size, int alignment, int[] homes, int bytes) {
        for (int count = 0; count < homes.length; count++) {
            CallFrames x = words(count);
            String what = "kind " + kind + " of " + size + ", alignment " + alignment + ", behind " + count + " words";
            due.answer(what, homes[count], () -> x.add(kind, size, alignment));
            due.answer("the end, " + what, homes[count] + bytes, () -> x.signature(3));
            due.answer("the next home, " + what, homes[count] + bytes, () -> x.add(Due.WORD, 0, 0));
        }
    }

    private static void multiplesOfEight(Due due) {
        due.sentence("a double, and a record of alignment 8, at the next multiple of 8");
        int[] homes = {0, 8, 8, 16, 16, 24};
        check(due, Due.DOUBLE, 0, 0, homes, 8);
        check(due, Due.DOUBLE, 4, 4, homes, 8);
        check(due, Due.RECORD, 8, 8, homes, 8);
        check(due, Due.RECORD, 16, 8, homes, 16);
        check(due, Due.RECORD, 65536, 8, homes, 65536);
    }

    private static void multiplesOfFour(Due due) {
        due.sentence("others at the next multiple of 4");
        int[] homes = {0, 4, 8, 12, 16, 20};
        check(due, Due.WORD, 8, 8, homes, 4);
        check(due, Due.FLOAT, 8, 8, homes, 4);
        check(due, Due.RECORD, 8, 4, homes, 8);
        check(due, Due.RECORD, 8, 2, homes, 8);
        check(due, Due.RECORD, 8, 1, homes, 8);
        check(due, Due.RECORD, 1, 1, homes, 4);
        check(due, Due.RECORD, 2, 2, homes, 4);
        check(due, Due.RECORD, 4, 4, homes, 4);
        check(due, Due.RECORD, 65536, 4, homes, 65536);
    }

    private static void homesBehindTheAddress(Due due) {
        due.sentence("the address where it goes is passed as a word ahead of all arguments");
        int[][] firsts = {{Due.WORD, 4, 4, 4}, {Due.FLOAT, 4, 4, 4}, {Due.DOUBLE, 4, 4, 8}, {Due.RECORD, 8, 8, 8},
            {Due.RECORD, 8, 4, 4}, {Due.RECORD, 8, 2, 4}, {Due.RECORD, 8, 1, 4}};
        for (int[] first : firsts) {
            CallFrames x = new CallFrames();
            x.begin(Due.RECORD, 65536, 8, false);
            due.answer("the first home, kind " + first[0] + ", alignment " + first[2], first[3],
                () -> x.add(first[0], first[1], first[2]));
        }
    }

    private static void recordsFilledUp(Due due) {
        due.sentence("a record takes its size filled up to a multiple of 4");
        int[] filled = {0, 4, 4, 4, 4, 8, 8, 8, 8, 12, 12, 12, 12, 16};
        for (int size = 1; size < filled.length; size++) {
            check(due, Due.RECORD, size, 1, new int[] {0, 4}, filled[size]);
        }
        check(due, Due.RECORD, 2, 2, new int[] {0, 4}, 4);
        check(due, Due.RECORD, 6, 2, new int[] {0, 4}, 8);
        check(due, Due.RECORD, 10, 2, new int[] {0, 4}, 12);
        check(due, Due.RECORD, 12, 4, new int[] {0, 4}, 12);
        check(due, Due.RECORD, 65532, 1, new int[] {0, 4}, 65532);
        for (int size = 65533; size <= 65536; size++) {
            check(due, Due.RECORD, size, 1, new int[] {0, 4}, 65536);
        }
    }

    private static void areaOfWords(Due due) {
        due.sentence("The AREA's size is the end of the last home, filled up to a multiple of 8, and at least 16.");
        int[] areas = {16, 16, 16, 16, 16, 24, 24, 32, 32, 40};
        for (int count = 0; count < areas.length; count++) {
            CallFrames x = words(count);
            due.answer("the area of " + count + " words", areas[count], () -> x.signature(0));
            due.answer("the end of " + count + " words", 4 * count, () -> x.signature(3));
            due.answer("call() of " + count + " words", areas[count], x::call);
        }
        CallFrames full = words(60);
        due.answer("the area of 60 words", 240, () -> full.signature(0));
    }

    private static void areaOfRecords(Due due) {
        due.sentence("The AREA's size is the end of the last home, filled up to a multiple of 8, and at least 16.");
        int[][] areas = {{1, 16}, {8, 16}, {9, 16}, {12, 16}, {13, 16}, {16, 16}, {17, 24}, {20, 24}, {21, 24},
            {24, 24}, {25, 32}, {65528, 65528}, {65529, 65536}, {65536, 65536}};
        for (int[] area : areas) {
            CallFrames x = new CallFrames();
            x.add(Due.RECORD, area[0], 1);
            due.answer("the area of a record of " + area[0], area[1], () -> x.signature(0));
        }
    }

    private static void areaOfAnAddress(Due due) {
        due.sentence("The AREA's size is the end of the last home, filled up to a multiple of 8, and at least 16.");
        int[] areas = {16, 16, 16, 16, 24, 24, 32};
        CallFrames x = new CallFrames();
        x.begin(Due.RECORD, 65536, 8, true);
        for (int count = 0; count < areas.length; count++) {
            due.answer("the area of an address and " + count + " words", areas[count], () -> x.signature(0));
            x.add(Due.WORD, 0, 0);
        }
    }
}
