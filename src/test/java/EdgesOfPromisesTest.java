/** Sentences of promises 1 to 23 that name a boundary case: the last number that is taken, the first that is not. */
public final class EdgesOfPromisesTest {
    private static final int BAD = -1, NO = -2, FULL = -3, NONE = -4;
    private static final int[] NO_KEYS = {};
    private static final int[] OUTER_KEYS = {0, 99};
    private static final int[] KEY_FIFTY = {50};
    private static final Due DUE = new Due();

    public static void main(String[] args) {
        newObject();
        row();
        rowNo();
        rowFull();
        rowFullByMerge();
        gone();
        goneNo();
        cell();
        cellColumns();
        cellNo();
        cellKinds();
        empty();
        emptyNo();
        column();
        columnFull();
        columnFullByMerge();
        drop();
        dropNo();
        retype();
        retypeNo();
        move();
        moveNo();
        branch();
        at();
        merge();
        mergeNone();
        mergeOrder();
        clash();
        clashOfTheLatest();
        base();
        version();
        columnOf();
        rowOf();
        readingCells();
        readingCellsNo();
        valueOfNone();
        differences();
        difference();
        count();
        countOfClashes();
        lastVersion();
        fullOfVersions();
        badAheadOfFull();
        noAheadOfFull();
        readingWhenFull();
        lastPromisedCall();
        DUE.end();
    }

    /** COLUMNS 0 (8 bits) and 1 (64 bits), ROWS with these KEYS; all BRANCHES are there. */
    private static Calls start(String sentence, int... keys) {
        Calls x = new Calls(DUE, sentence);
        x.makes("column", 0, 0, 0);
        int at = x.makes("column", 0, 0, 3);
        for (int key : keys) {
            at = x.makes("row", 0, 0, key);
        }
        for (int branch = 1; branch < 5; branch++) {
            x.is(0, "branch", branch, at);
        }
        return x;
    }

    private static int[] clash(int sort, int row, int column) {
        return new int[] {sort, row, column};
    }

    private static long[] with(long[] numbers, int place, long number) {
        long[] all = numbers.clone();
        all[place] = number;
        return all;
    }

    private static long[] beyond(long least, long greatest) {
        return new long[] {least - 1, greatest + 1, Integer.MIN_VALUE, Integer.MAX_VALUE};
    }

    /** At one place of a change the numbers least to greatest are taken; those beyond are BAD, and nothing changes. */
    private static void edges(String sentence, int[] keys, int place, long least, long greatest, Calls.Call call) {
        Calls x = start(sentence, keys);
        for (long number : beyond(least, greatest)) {
            x.refused(BAD, call.name(), with(call.numbers(), place, number));
        }
        for (long number : new long[] {least, greatest}) {
            start(sentence, keys).makes(call.name(), with(call.numbers(), place, number));
        }
    }

    /** At one place of a call that changes nothing the numbers least to greatest are told, those beyond are BAD. */
    private static void readEdges(Calls x, int place, long least, long greatest, long[] wants, Calls.Call call) {
        for (long number : beyond(least, greatest)) {
            x.refused(BAD, call.name(), with(call.numbers(), place, number));
        }
        x.refused(wants[0], call.name(), with(call.numbers(), place, least));
        x.refused(wants[1], call.name(), with(call.numbers(), place, greatest));
    }

    private static Calls.Call call(String name, long... numbers) {
        return new Calls.Call(name, numbers);
    }

    private static long[] wants(long ofLeast, long ofGreatest) {
        return new long[] {ofLeast, ofGreatest};
    }

    // ---- 1

    private static void newObject() {
        Calls x = new Calls(DUE, "1: VERSION 0 alone; all BRANCHES are at it");
        x.is(1, "count", 0);
        x.is(BAD, "version", 1, 0);
        x.columnsAre(0);
        x.rowsAre(0);
        for (int branch = 0; branch < 5; branch++) {
            x.is(0, "at", branch);
        }
        x.is(0, "base", 0, 0);
        x.differencesAre(0, 0);
        x.is(0, "count", 1);
        x.is(0, "count", 2);
        x.clashesAre();
        Calls other = new Calls(DUE, "1: one object has nothing of another");
        x.makes("row", 0, 0, 5);
        other.is(1, "count", 0);
        other.is(0, "count", 2);
        other.is(0, "at", 0);
    }

    // ---- 2

    private static void row() {
        edges("2 row: BAD: branch", NO_KEYS, 0, 0, 4, call("row", 0, 0, 50));
        edges("2 row: BAD: who", NO_KEYS, 1, 0, 9, call("row", 0, 0, 50));
        edges("2 row: BAD: key", NO_KEYS, 2, 0, 99, call("row", 0, 0, 50));
    }

    private static void rowNo() {
        Calls x = start("2 row: NO: a ROW has that KEY", OUTER_KEYS);
        x.refused(NO, "row", 0, 0, 0);
        x.refused(NO, "row", 0, 0, 99);
        x.makes("row", 0, 0, 1);
        x.makes("row", 0, 0, 98);
        x.makes("gone", 0, 0, 0);
        x.makes("row", 0, 0, 0);
        x.makes("move", 0, 0, 99, 50);
        x.refused(NO, "row", 0, 0, 50);
        x.makes("row", 0, 0, 99);
        x.makes("row", 1, 0, 50);
        Calls y = start("2 row: BAD is ahead of NO", OUTER_KEYS);
        y.refused(BAD, "row", 0, 10, 99);
        y.refused(BAD, "row", 5, 0, 99);
    }

    private static void rowFull() {
        Calls x = start("2 row: FULL: also 16 ROWS");
        for (int key = 0; key < 15; key++) {
            x.makes("row", 0, 0, key);
        }
        int last = x.makes("row", 0, 0, 15);
        x.is(16, "version", last, 4);
        x.refused(FULL, "row", 0, 0, 16);
        x.refused(FULL, "row", 0, 0, 99);
        x.refused(NO, "row", 0, 0, 0);
        x.refused(NO, "row", 0, 0, 15);
        x.refused(BAD, "row", 0, 0, 100);
        x.refused(BAD, "row", 0, 0, -1);
        x.refused(BAD, "row", 0, 10, 16);
        x.makes("row", 1, 0, 16);
        x.makes("gone", 0, 0, 7);
        x.makes("row", 0, 0, 16);
        x.refused(FULL, "row", 0, 0, 7);
    }

    private static void rowFullByMerge() {
        Calls x = start("2 row: FULL: also 16 ROWS that a merge made");
        for (int key = 0; key < 8; key++) {
            x.makes("row", 0, 0, key);
            x.makes("row", 1, 0, 50 + key);
        }
        x.is(16, "version", x.makes("merge", 0, 1, 0), 4);
        x.refused(FULL, "row", 0, 0, 99);
    }

    // ---- 3

    private static void gone() {
        edges("3 gone: BAD: branch", OUTER_KEYS, 0, 0, 4, call("gone", 0, 0, 0));
        edges("3 gone: BAD: who", OUTER_KEYS, 1, 0, 9, call("gone", 0, 0, 0));
        edges("3 gone: BAD: key", OUTER_KEYS, 2, 0, 99, call("gone", 0, 0, 0));
    }

    private static void goneNo() {
        new Calls(DUE, "3 gone: NO in an empty TABLE").refused(NO, "gone", 0, 0, 0);
        Calls x = start("3 gone: NO: none has it", 50);
        x.refused(NO, "gone", 0, 0, 49);
        x.refused(NO, "gone", 0, 0, 51);
        x.makes("move", 0, 0, 50, 51);
        x.refused(NO, "gone", 0, 0, 50);
        int v = x.makes("gone", 0, 0, 51);
        x.rowsAre(v);
        x.refused(NO, "gone", 0, 0, 51);
        x.is(v, "branch", 0, 2);
        x.refused(NO, "gone", 0, 0, 50);
        x.makes("gone", 1, 0, 50);
    }

    // ---- 4

    private static void cell() {
        edges("4 cell: BAD: branch", OUTER_KEYS, 0, 0, 4, call("cell", 0, 0, 0, 0, 1));
        edges("4 cell: BAD: who", OUTER_KEYS, 1, 0, 9, call("cell", 0, 0, 0, 0, 1));
        edges("4 cell: BAD: key", OUTER_KEYS, 2, 0, 99, call("cell", 0, 0, 0, 0, 1));
        edges("4 cell: BAD: column", OUTER_KEYS, 3, 0, 1, call("cell", 0, 0, 0, 0, 1));
    }

    private static void cellColumns() {
        Calls none = new Calls(DUE, "4 cell: BAD: before any COLUMN");
        none.makes("row", 0, 0, 0);
        none.refused(BAD, "cell", 0, 0, 0, 0, 1);
        Calls x = start("4 cell: BAD here and below: a NUMBER of none ever", OUTER_KEYS);
        x.refused(BAD, "cell", 0, 0, 0, 2, 1);
        x.refused(BAD, "cell", 0, 0, 50, 2, 1);
        x.makes("column", 1, 0, 0);
        x.refused(NO, "cell", 0, 0, 0, 2, 1);
        x.refused(BAD, "cell", 0, 0, 0, 3, 1);
        x.makes("cell", 1, 0, 0, 2, 1);
        x.makes("drop", 1, 0, 2);
        x.refused(NO, "cell", 1, 0, 0, 2, 1);
    }

    private static void cellNo() {
        Calls x = start("4 cell: NO: no such ROW, COLUMN there; then BAD: v", 50);
        x.refused(NO, "cell", 0, 0, 49, 0, 1);
        x.refused(NO, "cell", 0, 0, 51, 0, 1);
        x.refused(NO, "cell", 0, 0, 51, 0, 128);
        x.refused(BAD, "cell", 0, 0, 50, 0, 128);
        x.makes("drop", 0, 0, 0);
        x.refused(NO, "cell", 0, 0, 50, 0, 1);
        x.refused(NO, "cell", 0, 0, 50, 0, 128);
        x.makes("cell", 0, 0, 50, 1, 128);
        x.makes("cell", 1, 0, 50, 0, 1);
        x.makes("gone", 1, 0, 50);
        x.refused(NO, "cell", 1, 0, 50, 0, 1);
    }

    private static void cellKinds() {
        for (int kind = 0; kind < 4; kind++) {
            long greatest = Long.MAX_VALUE >> (64 - (8 << kind));
            long least = -greatest - 1;
            Calls x = new Calls(DUE, "4 cell: BAD: v is none of its KIND, " + kind);
            x.makes("column", 0, 0, kind);
            x.makes("row", 0, 0, 0);
            for (long v : new long[] {least, least + 1, -1, 0, 1, greatest - 1, greatest}) {
                int made = x.makes("cell", 0, 0, 0, 0, v);
                x.numberIs(v, made, made, 0, 0);
            }
            for (long v : kind == 3 ? new long[0] : new long[] {least - 1, greatest + 1, Long.MIN_VALUE, Long.MAX_VALUE,
                    4294967296L << 8, -2 * greatest - 2}) {
                x.refused(BAD, "cell", 0, 0, 0, 0, v);
            }
        }
    }

    // ---- 5

    private static void empty() {
        edges("5 empty: BAD: branch", OUTER_KEYS, 0, 0, 4, call("empty", 0, 0, 0, 0));
        edges("5 empty: BAD: who", OUTER_KEYS, 1, 0, 9, call("empty", 0, 0, 0, 0));
        edges("5 empty: BAD: key", OUTER_KEYS, 2, 0, 99, call("empty", 0, 0, 0, 0));
        edges("5 empty: BAD: column", OUTER_KEYS, 3, 0, 1, call("empty", 0, 0, 0, 0));
    }

    private static void emptyNo() {
        Calls x = start("5 empty: NO likewise", 50);
        x.refused(BAD, "empty", 0, 0, 51, 2);
        x.refused(NO, "empty", 0, 0, 51, 0);
        x.makes("column", 1, 0, 0);
        x.refused(NO, "empty", 0, 0, 50, 2);
        x.makes("empty", 1, 0, 50, 2);
        x.makes("drop", 0, 0, 0);
        x.refused(NO, "empty", 0, 0, 50, 0);
        x.makes("gone", 0, 0, 50);
        x.refused(NO, "empty", 0, 0, 50, 1);
    }

    // ---- 6

    private static void column() {
        edges("6 column: BAD: branch", NO_KEYS, 0, 0, 4, call("column", 0, 0, 0));
        edges("6 column: BAD: who", NO_KEYS, 1, 0, 9, call("column", 0, 0, 0));
        edges("6 column: BAD: kind", NO_KEYS, 2, 0, 3, call("column", 0, 0, 0));
    }

    private static void columnFull() {
        Calls x = start("6 column: FULL: also 5 COLUMNS", 50);
        x.makes("column", 0, 0, 0);
        x.makes("column", 0, 0, 0);
        int last = x.makes("column", 0, 0, 0);
        x.columnsAre(last, 0, 1, 2, 3, 4);
        x.refused(FULL, "column", 0, 0, 0);
        x.refused(FULL, "column", 0, 0, 3);
        x.refused(BAD, "column", 0, 0, 4);
        x.refused(BAD, "column", 0, 0, -1);
        x.refused(BAD, "column", 5, 0, 0);
        x.refused(BAD, "column", 0, -1, 0);
        x.columnsAre(x.makes("column", 1, 0, 0), 0, 1, 5);
        x.makes("drop", 0, 0, 2);
        x.columnsAre(x.makes("column", 0, 0, 0), 0, 1, 3, 4, 6);
        x.refused(FULL, "column", 0, 0, 0);
    }

    private static void columnFullByMerge() {
        Calls x = start("6 column: FULL: also 5 COLUMNS that a merge made");
        x.makes("column", 0, 0, 0);
        x.makes("column", 1, 0, 0);
        x.makes("column", 1, 0, 0);
        x.columnsAre(x.makes("merge", 0, 1, 0), 0, 1, 2, 3, 4);
        x.refused(FULL, "column", 0, 0, 0);
    }

    // ---- 7

    private static void drop() {
        edges("7 drop: BAD: branch", NO_KEYS, 0, 0, 4, call("drop", 0, 0, 0));
        edges("7 drop: BAD: who", NO_KEYS, 1, 0, 9, call("drop", 0, 0, 0));
        edges("7 drop: BAD: also a NUMBER of none ever", NO_KEYS, 2, 0, 1, call("drop", 0, 0, 0));
    }

    private static void dropNo() {
        new Calls(DUE, "7 drop: BAD: before any COLUMN").refused(BAD, "drop", 0, 0, 0);
        Calls x = start("7 drop: NO: it is not there");
        x.makes("column", 1, 0, 0);
        x.refused(NO, "drop", 0, 0, 2);
        x.refused(BAD, "drop", 0, 0, 3);
        x.makes("drop", 1, 0, 2);
        x.refused(NO, "drop", 1, 0, 2);
        x.makes("drop", 0, 0, 0);
        x.refused(NO, "drop", 0, 0, 0);
        x.columnsAre(x.makes("drop", 0, 0, 1));
        x.refused(NO, "drop", 0, 0, 1);
    }

    // ---- 8

    private static void retype() {
        edges("8 retype: BAD: branch", OUTER_KEYS, 0, 0, 4, call("retype", 0, 0, 0, 0, 0));
        edges("8 retype: BAD: who", OUTER_KEYS, 1, 0, 9, call("retype", 0, 0, 0, 0, 0));
        edges("8 retype: BAD: column", OUTER_KEYS, 2, 0, 1, call("retype", 0, 0, 0, 0, 0));
        edges("8 retype: BAD: also kind", OUTER_KEYS, 3, 0, 3, call("retype", 0, 0, 0, 0, 0));
        edges("8 retype: BAD: also rule (0 to 2)", OUTER_KEYS, 4, 0, 2, call("retype", 0, 0, 0, 0, 0));
    }

    private static void retypeNo() {
        Calls x = start("8 retype: NO: it is not there", 50);
        x.makes("column", 1, 0, 0);
        x.refused(NO, "retype", 0, 0, 2, 0, 0);
        x.refused(BAD, "retype", 0, 0, 2, 4, 0);
        x.refused(BAD, "retype", 0, 0, 2, 0, 3);
        x.refused(BAD, "retype", 0, 0, 3, 0, 0);
        x.makes("drop", 0, 0, 0);
        x.refused(NO, "retype", 0, 0, 0, 0, 0);
        Calls y = start("8 retype: NO: a CELL can not be CONVERTED", 0, 50, 99);
        y.makes("cell", 0, 0, 0, 1, 127);
        y.makes("cell", 0, 0, 99, 1, 128);
        y.refused(NO, "retype", 0, 0, 1, 0, 0);
        y.refused(BAD, "retype", 0, 0, 1, 0, 3);
        y.makes("retype", 0, 0, 1, 1, 0);
        y.refused(NO, "retype", 0, 0, 1, 0, 0);
        y.makes("cell", 0, 0, 99, 1, -128);
        y.makes("retype", 0, 0, 1, 0, 0);
    }

    // ---- 9

    private static void move() {
        edges("9 move: BAD: branch", OUTER_KEYS, 0, 0, 4, call("move", 0, 0, 0, 50));
        edges("9 move: BAD: who", OUTER_KEYS, 1, 0, 9, call("move", 0, 0, 0, 50));
        edges("9 move: BAD: key", OUTER_KEYS, 2, 0, 99, call("move", 0, 0, 0, 50));
        edges("9 move: BAD: to", KEY_FIFTY, 3, 0, 99, call("move", 0, 0, 50, 0));
    }

    private static void moveNo() {
        Calls x = start("9 move: NO: none has it", OUTER_KEYS);
        x.refused(NO, "move", 0, 0, 1, 50);
        x.refused(NO, "move", 0, 0, 98, 50);
        x.refused(NO, "move", 0, 0, 50, 50);
        x.refused(BAD, "move", 0, 0, 50, 100);
        x.refused(BAD, "move", 0, 0, -1, 99);
        Calls y = start("9 move: NO: or one has the other KEY", OUTER_KEYS);
        y.refused(NO, "move", 0, 0, 0, 99);
        y.refused(NO, "move", 0, 0, 99, 0);
        y.refused(NO, "move", 0, 0, 50, 0);
        y.makes("gone", 0, 0, 99);
        y.makes("move", 0, 0, 0, 99);
        y.refused(NO, "move", 0, 0, 0, 50);
        y.makes("move", 0, 0, 99, 0);
        Calls z = start("9 move: the same one: NO", OUTER_KEYS);
        z.refused(NO, "move", 0, 0, 0, 0);
        z.refused(NO, "move", 0, 0, 99, 99);
    }

    // ---- 10, 11

    private static void branch() {
        Calls x = start("10 branch: BAD", 50);
        for (long number : beyond(0, 4)) {
            x.refused(BAD, "branch", number, 0);
        }
        for (long number : beyond(0, 3)) {
            x.refused(BAD, "branch", 0, number);
        }
        Calls y = start("10 branch: a BRANCH is at a VERSION: where it was", 50);
        y.is(3, "branch", 0, 0);
        y.is(0, "branch", 0, 3);
        y.is(3, "branch", 4, 1);
        y.is(1, "branch", 4, 1);
        y.is(1, "branch", 4, 0);
        y.is(3, "at", 0);
        y.is(3, "at", 3);
        y.is(0, "at", 4);
        y.is(4, "count", 0);
        y.makes("row", 0, 0, 0);
        y.is(0, "branch", 4, 4);
        y.refused(BAD, "branch", 4, 5);
    }

    private static void at() {
        Calls x = start("11 at: BAD", 50);
        x.makes("row", 4, 0, 0);
        x.makes("row", 0, 0, 0);
        readEdges(x, 0, 0, 4, wants(5, 4), call("at", 0));
    }

    // ---- 12

    private static void merge() {
        String sentence = "12 merge: BAD";
        Calls x = start(sentence, 50);
        x.makes("row", 0, 0, 0);
        for (long number : beyond(0, 4)) {
            x.refused(BAD, "merge", number, 0, 0);
            x.refused(BAD, "merge", 1, number, 0);
        }
        for (long number : beyond(0, 9)) {
            x.refused(BAD, "merge", 1, 0, number);
            x.refused(BAD, "merge", 0, 1, number);
        }
        x.is(0, "version", x.makes("merge", 1, 0, 0), 0);
        x.is(9, "version", x.makes("merge", 4, 1, 9), 0);
        x.is(9, "version", x.makes("merge", 3, 4, 9), 0);
    }

    private static void mergeNone() {
        Calls x = start("12 merge: NONE: the BASE is the other's", 50);
        x.refused(NONE, "merge", 0, 0, 0);
        x.refused(NONE, "merge", 0, 1, 0);
        x.makes("row", 0, 0, 0);
        x.refused(NONE, "merge", 0, 1, 0);
        x.is(3, "branch", 2, 0);
        x.refused(NONE, "merge", 0, 2, 0);
        x.refused(NONE, "merge", 2, 2, 0);
        Calls y = start("12 merge: If the BASE is where the BRANCH is, too", 50);
        int b = y.makes("cell", 1, 0, 50, 0, 7);
        int v = y.makes("merge", 0, 1, 8);
        y.is(8, "version", v, 0);
        y.is(3, "version", v, 1);
        y.is(b, "version", v, 2);
        y.is(v, "at", 0);
        y.is(b, "at", 1);
        y.numberIs(7, b, v, 50, 0);
        y.refused(NONE, "merge", 0, 1, 8);
        y.is(v + 1, "merge", 1, 0, 8);
    }

    /** BAD, then NONE, then FULL, then NO. */
    private static void mergeOrder() {
        Calls x = start("12 merge: BAD; NONE; FULL; NO", 50);
        int one = x.makes("cell", 0, 0, 50, 0, 1);
        x.makes("cell", 1, 0, 50, 0, 2);
        x.makes("move", 2, 0, 50, 51);
        x.clashes(0, 1, clash(6, 0, 0));
        x.fill(4, 70, 149);
        x.clashes(1, 0, clash(6, 0, 0));
        x.is(149, "merge", 0, 2, 3);
        x.is(one, "version", 149, 1);
        x.refused(FULL, "merge", 1, 0, 0);
        x.refused(FULL, "merge", 1, 2, 0);
        x.refused(NONE, "merge", 0, 2, 0);
        x.refused(NONE, "merge", 1, 3, 0);
        x.refused(NONE, "merge", 1, 1, 0);
        x.refused(BAD, "merge", 1, 0, 10);
        x.refused(BAD, "merge", 5, 0, 0);
        x.refused(BAD, "merge", 1, 1, -1);
        x.clashesAre(clash(6, 0, 0));
    }

    // ---- 13

    private static void clash() {
        Calls none = start("13 clash: before any: NONE");
        for (int what = 0; what < 3; what++) {
            none.is(NONE, "clash", 0, what);
            none.is(NONE, "clash", Integer.MAX_VALUE, what);
        }
        none.refused(BAD, "clash", -1, 0);
        none.refused(BAD, "clash", 0, 3);
        none.refused(BAD, "clash", 0, -1);
        Calls x = start("13 clash: BAD: i below 0, what; NONE behind the last one", 50);
        x.makes("cell", 0, 0, 50, 0, 1);
        x.makes("cell", 0, 0, 50, 1, 1);
        x.makes("cell", 1, 0, 50, 0, 2);
        x.makes("cell", 1, 0, 50, 1, 2);
        x.clashes(0, 1, clash(6, 0, 0), clash(6, 0, 1));
        for (int what = 0; what < 3; what++) {
            x.is(what == 0 ? 6 : what - 1, "clash", 1, what);
            x.is(NONE, "clash", 2, what);
            x.is(NONE, "clash", Integer.MAX_VALUE, what);
            x.refused(BAD, "clash", -1, what);
            x.refused(BAD, "clash", Integer.MIN_VALUE, what);
        }
        readEdges(x, 1, 0, 2, wants(6, 0), call("clash", 0, 0));
        x.refused(BAD, "clash", 2, 3);
        x.refused(BAD, "clash", 2, -1);
    }

    private static void clashOfTheLatest() {
        Calls x = start("13 clash: of the latest merge() that was NO", 50);
        x.makes("cell", 0, 0, 50, 0, 1);
        x.makes("cell", 0, 0, 50, 1, 1);
        x.makes("cell", 1, 0, 50, 0, 2);
        x.makes("cell", 1, 0, 50, 1, 2);
        x.makes("gone", 2, 0, 50);
        x.clashes(0, 1, clash(6, 0, 0), clash(6, 0, 1));
        x.refused(BAD, "merge", 0, 5, 0);
        x.refused(NONE, "merge", 0, 3, 0);
        x.refused(3, "differences", 0, 3);
        x.makes("merge", 3, 0, 0);
        x.clashesAre(clash(6, 0, 0), clash(6, 0, 1));
        x.clashes(0, 2, clash(4, 0, NONE));
        x.clashes(1, 2, clash(4, 0, NONE));
        x.clashes(1, 0, clash(6, 0, 0), clash(6, 0, 1));
    }

    // ---- 14 to 17

    private static void base() {
        Calls x = start("14 base: BAD", 50);
        x.makes("row", 0, 0, 0);
        x.makes("row", 1, 0, 0);
        readEdges(x, 0, 0, 5, wants(0, 5), call("base", 0, 5));
        readEdges(x, 1, 0, 5, wants(0, 3), call("base", 4, 0));
    }

    private static void version() {
        Calls x = start("15 version: BAD", 50);
        x.is(4, "row", 0, 9, 0);
        readEdges(x, 0, 0, 4, wants(0, 9), call("version", 0, 0));
        readEdges(x, 1, 0, 4, wants(9, 2), call("version", 4, 0));
        x.is(3, "version", 4, 1);
        x.is(NONE, "version", 4, 2);
        x.is(2, "version", 4, 3);
        x.refused(BAD, "version", 5, 5);
    }

    private static void columnOf() {
        Calls x = start("16 columnOf: NONE; BAD");
        x.makes("column", 0, 0, 2);
        x.makes("column", 0, 0, 1);
        x.makes("column", 0, 0, 3);
        x.makes("retype", 0, 0, 4, 2, 2);
        readEdges(x, 0, 0, 6, wants(NONE, 4), call("columnOf", 0, 4, 0));
        readEdges(x, 2, 0, 2, wants(4, 2), call("columnOf", 6, 4, 0));
        x.is(2, "columnOf", 6, 4, 1);
        x.is(0, "columnOf", 6, 0, 0);
        for (int what = 0; what < 3; what++) {
            x.is(NONE, "columnOf", 6, 5, what);
            x.is(NONE, "columnOf", 6, Integer.MAX_VALUE, what);
            x.is(NONE, "columnOf", 0, 0, what);
            x.refused(BAD, "columnOf", 6, -1, what);
            x.refused(BAD, "columnOf", 6, Integer.MIN_VALUE, what);
            x.refused(BAD, "columnOf", 0, -1, what);
        }
        x.refused(BAD, "columnOf", 6, 5, 3);
        x.refused(BAD, "columnOf", 7, 5, 0);
    }

    private static void rowOf() {
        Calls x = new Calls(DUE, "17 rowOf: NONE; BAD");
        for (int key = 99; key > 83; key--) {
            x.makes("row", 0, 0, key);
        }
        readEdges(x, 0, 0, 16, wants(NONE, 15), call("rowOf", 0, 15, 0));
        readEdges(x, 2, 0, 1, wants(15, 84), call("rowOf", 16, 15, 0));
        x.is(0, "rowOf", 16, 0, 0);
        x.is(99, "rowOf", 16, 0, 1);
        for (int what = 0; what < 2; what++) {
            x.is(NONE, "rowOf", 16, 16, what);
            x.is(NONE, "rowOf", 15, 15, what);
            x.is(NONE, "rowOf", 16, Integer.MAX_VALUE, what);
            x.is(NONE, "rowOf", 0, 0, what);
            x.refused(BAD, "rowOf", 16, -1, what);
            x.refused(BAD, "rowOf", 16, Integer.MIN_VALUE, what);
        }
        x.refused(BAD, "rowOf", 16, 16, 2);
        x.refused(BAD, "rowOf", 17, 16, 0);
    }

    // ---- 18 to 20

    private static void readingCells() {
        for (String name : new String[] {"has", "madeBy"}) {
            Calls x = start((name.equals("has") ? "18 " : "20 ") + name + ": BAD", OUTER_KEYS);
            x.makes("cell", 0, 0, 0, 0, 1);
            x.makes("cell", 0, 0, 99, 0, 1);
            x.makes("cell", 0, 0, 0, 1, 1);
            boolean has = name.equals("has");
            readEdges(x, 0, 0, 7, wants(NO, has ? 1 : 5), call(name, 0, 0, 0));
            readEdges(x, 1, 0, 99, wants(has ? 1 : 5, has ? 1 : 6), call(name, 7, 0, 0));
            readEdges(x, 2, 0, 1, wants(has ? 1 : 5, has ? 1 : 7), call(name, 7, 0, 0));
        }
    }

    private static void readingCellsNo() {
        for (String name : new String[] {"has", "madeBy"}) {
            boolean has = name.equals("has");
            Calls x = start((has ? "18 " : "20 ") + name + ": NO: no such ROW, COLUMN there", 50);
            x.refused(NO, name, 3, 49, 0);
            x.refused(NO, name, 3, 51, 0);
            x.refused(BAD, name, 3, 51, 2);
            x.refused(has ? 0 : 3, name, 3, 50, 0);
            int dropped = x.makes("drop", 0, 0, 0);
            x.refused(NO, name, dropped, 50, 0);
            x.refused(has ? 0 : 3, name, dropped, 50, 1);
            int moved = x.makes("move", 0, 0, 50, 51);
            x.refused(NO, name, moved, 50, 1);
            x.refused(has ? 0 : 3, name, moved, 51, 1);
            int gone = x.makes("gone", 0, 0, 51);
            x.refused(NO, name, gone, 51, 1);
            x.makes("column", 1, 0, 0);
            x.refused(NO, name, gone, 51, 2);
            x.refused(NO, name, 3, 50, 2);
            x.refused(NO, name, 0, 50, 0);
        }
    }

    private static void valueOfNone() {
        Calls x = start("19 value: EMPTY: 0; BAD, NO: 0", OUTER_KEYS);
        x.is(0, "value", 4, 0, 1);
        int v = x.makes("cell", 0, 0, 0, 1, Long.MIN_VALUE);
        x.is(Long.MIN_VALUE, "value", v, 0, 1);
        v = x.makes("cell", 0, 0, 99, 1, Long.MAX_VALUE);
        x.is(Long.MAX_VALUE, "value", v, 99, 1);
        for (long number : beyond(0, v)) {
            x.refused(0, "value", number, 99, 1);
        }
        for (long number : beyond(0, 99)) {
            x.refused(0, "value", v, number, 1);
        }
        for (long number : beyond(0, 1)) {
            x.refused(0, "value", v, 99, number);
        }
        x.refused(0, "value", v, 50, 1);
        x.is(0, "value", x.makes("empty", 0, 0, 99, 1), 99, 1);
        x.is(0, "value", x.makes("drop", 0, 0, 1), 0, 1);
        x.is(Long.MAX_VALUE, "value", v, 99, 1);
    }

    // ---- 21, 22

    private static void differences() {
        Calls x = start("21 differences: BAD", 50);
        readEdges(x, 0, 0, 3, wants(3, 0), call("differences", 0, 3));
        readEdges(x, 1, 0, 3, wants(3, 0), call("differences", 3, 0));
    }

    private static void difference() {
        Calls x = start("22 difference: NONE behind the last one; BAD", 50);
        readEdges(x, 0, 0, 3, wants(2, NONE), call("difference", 0, 3, 0, 0));
        readEdges(x, 1, 0, 3, wants(1, NONE), call("difference", 3, 0, 0, 0));
        readEdges(x, 3, 0, 2, wants(2, 0), call("difference", 0, 3, 0, 0));
        for (int what = 0; what < 3; what++) {
            x.is(what == 0 ? 5 : what == 1 ? 0 : NONE, "difference", 0, 3, 2, what);
            x.is(NONE, "difference", 0, 3, 3, what);
            x.is(NONE, "difference", 0, 3, Integer.MAX_VALUE, what);
            x.is(NONE, "difference", 3, 3, 0, what);
            x.refused(BAD, "difference", 0, 3, -1, what);
            x.refused(BAD, "difference", 0, 3, Integer.MIN_VALUE, what);
            x.refused(BAD, "difference", 3, 3, -1, what);
        }
        x.refused(BAD, "difference", 0, 3, 3, 3);
        x.refused(BAD, "difference", 0, 4, 3, 0);
    }

    // ---- 23

    private static void count() {
        Calls x = start("23 count: BAD", 50);
        readEdges(x, 0, 0, 3, wants(4, 0), call("count", 0));
        x.is(2, "count", 1);
        x.is(1, "count", 2);
        x.makes("drop", 0, 0, 1);
        x.makes("gone", 0, 0, 50);
        x.is(2, "count", 1);
        x.is(1, "count", 2);
    }

    private static void countOfClashes() {
        Calls x = start("23 count: CLASHES of the latest merge() that was NO (0)", 50);
        x.is(0, "count", 3);
        x.makes("cell", 0, 0, 50, 0, 1);
        x.makes("merge", 2, 0, 0);
        x.is(0, "count", 3);
        x.makes("cell", 1, 0, 50, 0, 2);
        x.clashes(0, 1, clash(6, 0, 0));
        x.makes("merge", 3, 0, 0);
        x.is(1, "count", 3);
    }

    // ---- FULL: 150 VERSIONS

    private static final Calls.Call[] CHANGES = {call("row", 0, 0, 50), call("gone", 0, 0, 99),
        call("cell", 0, 0, 0, 0, 1), call("empty", 0, 0, 0, 0), call("column", 0, 0, 0), call("drop", 0, 0, 0),
        call("retype", 0, 0, 0, 3, 0), call("move", 0, 0, 0, 50), call("merge", 0, 2, 0)};

    /** As start() with the OUTER_KEYS, a CELL of COLUMN 1 that is none of 8 bits, a VERSION on BRANCH 2 to be merged. */
    private static Calls filled(String sentence, int versions) {
        Calls x = start(sentence, OUTER_KEYS);
        x.makes("cell", 0, 0, 99, 1, 128);
        x.makes("move", 2, 0, 0, 1);
        x.fill(3, 70, versions);
        return x;
    }

    private static void lastVersion() {
        for (Calls.Call change : CHANGES) {
            Calls x = filled("VERSIONS 150 at most: the last one by " + change.name(), 149);
            x.is(149, change.name(), change.numbers());
            x.is(150, "count", 0);
            x.is(149, "at", 0);
            x.is(5, "version", 149, 1);
            x.refused(FULL, "row", 0, 0, 60);
            x.refused(BAD, "version", 150, 0);
        }
    }

    private static void fullOfVersions() {
        for (Calls.Call change : CHANGES) {
            Calls x = filled("FULL: 150 VERSIONS: " + change.name(), 150);
            x.refused(FULL, change.name(), change.numbers());
        }
    }

    private static void badAheadOfFull() {
        for (Calls.Call change : CHANGES) {
            Calls x = filled("FULL is behind BAD: " + change.name(), 150);
            x.refused(BAD, change.name(), with(change.numbers(), 0, 5));
            x.refused(BAD, change.name(), with(change.numbers(), change.name().equals("merge") ? 2 : 1, 10));
        }
        Calls x = filled("FULL is behind BAD of the rest", 150);
        x.refused(BAD, "row", 0, 0, 100);
        x.refused(BAD, "gone", 0, 0, 100);
        x.refused(BAD, "cell", 0, 0, 100, 0, 1);
        x.refused(BAD, "cell", 0, 0, 0, 2, 1);
        x.refused(BAD, "cell", 0, 0, 0, 0, 128);
        x.refused(BAD, "cell", 0, 0, 0, 0, -129);
        x.refused(FULL, "cell", 0, 0, 0, 0, 127);
        x.refused(FULL, "cell", 0, 0, 0, 0, -128);
        x.refused(BAD, "empty", 0, 0, -1, 0);
        x.refused(BAD, "empty", 0, 0, 0, 2);
        x.refused(BAD, "column", 0, 0, 4);
        x.refused(BAD, "drop", 0, 0, 2);
        x.refused(BAD, "retype", 0, 0, 2, 0, 0);
        x.refused(BAD, "retype", 0, 0, 0, 4, 0);
        x.refused(BAD, "retype", 0, 0, 0, 0, 3);
        x.refused(BAD, "move", 0, 0, -1, 50);
        x.refused(BAD, "move", 0, 0, 0, 100);
    }

    private static void noAheadOfFull() {
        Calls x = filled("FULL is behind NO", 150);
        x.refused(NO, "row", 0, 0, 0);
        x.refused(NO, "gone", 0, 0, 50);
        x.refused(NO, "cell", 0, 0, 50, 0, 1);
        x.refused(NO, "cell", 0, 0, 50, 0, 128);
        x.refused(NO, "empty", 0, 0, 50, 0);
        x.refused(NO, "retype", 0, 0, 1, 0, 0);
        x.refused(FULL, "retype", 0, 0, 1, 0, 1);
        x.refused(NO, "move", 0, 0, 50, 51);
        x.refused(NO, "move", 0, 0, 0, 99);
        x.refused(NO, "move", 0, 0, 0, 0);
        x.is(5, "branch", 0, 0);
        x.refused(NO, "cell", 0, 0, 0, 0, 1);
        x.refused(NO, "empty", 0, 0, 0, 0);
        x.refused(NO, "drop", 0, 0, 0);
        x.refused(NO, "retype", 0, 0, 0, 0, 0);
        x.refused(FULL, "column", 0, 0, 0);
        x.refused(FULL, "row", 0, 0, 0);
    }

    private static void readingWhenFull() {
        Calls x = filled("with 150 VERSIONS all that is told is told", 150);
        x.is(4, "branch", 4, 149);
        x.is(149, "at", 4);
        x.is(149, "branch", 4, 0);
        x.refused(BAD, "branch", 4, 150);
        x.is(149, "base", 149, 149);
        x.is(4, "base", 149, 6);
        x.is(BAD, "base", 149, 150);
        x.is(148, "version", 149, 1);
        x.is(BAD, "has", 150, 0, 0);
        x.is(0, "has", 149, 0, 0);
        x.is(BAD, "madeBy", 150, 0, 0);
        x.is(3, "madeBy", 149, 0, 0);
        x.is(1, "differences", 148, 149);
        x.is(BAD, "differences", 149, 150);
    }

    private static void lastPromisedCall() {
        String sentence = "An object is used for at most 512 calls: call ";
        TableHistories x = new TableHistories();
        for (int call = 1; call < 512; call++) {
            long answer = call % 2 == 1 ? x.row(0, 0, 5) : x.gone(0, 0, 5);
            DUE.is(sentence + call, answer, call < 150 ? call : call % 2 == 1 ? NO : FULL);
        }
        DUE.is(sentence + 512, x.count(0), 150);
    }
}
