/** Each sentence of the document's terms and changes that names a boundary case. */
public final class EdgesOfTermsTest {
    private static final int BAD = -1, NO = -2, FULL = -3, NONE = -4;
    private static final Due DUE = new Due();

    public static void main(String[] args) {
        columnNumbers();
        columnNumbersOfRefusedCalls();
        rowNumbers();
        rowNumbersOfRefusedCalls();
        numbersByMerge();
        ruleChangedLast();
        keysOfOneTable();
        cellIsEmptyOrNumber();
        versionsAsTheyCome();
        firstVersion();
        branchesAtFirst();
        changeOnBranch();
        versionsAhead();
        asItIs();
        cut();
        cutOfFarNumbers();
        kept();
        widened();
        sameKind();
        emptyConverted();
        rowComes();
        rowGoes();
        cellMadeAlsoIfItWasSo();
        columnComes();
        columnGoes();
        retypeMakesOtherNumbers();
        retypeOfOneColumn();
        moveMakesNoCells();
        ofSeveralTheFirst();
        DUE.end();
    }

    private static Calls calls(String sentence) {
        return new Calls(DUE, sentence);
    }

    private static long greatest(int kind) {
        return Long.MAX_VALUE >> (64 - (8 << kind));
    }

    private static long least(int kind) {
        return -greatest(kind) - 1;
    }

    // ---- NUMBERS

    private static void columnNumbers() {
        Calls x = calls("A COLUMN has a NUMBER (0, 1, .. as COLUMNS are made in all VERSIONS, never used twice)");
        x.columnsAre(x.makes("column", 0, 0, 0), 0);
        x.columnsAre(x.makes("column", 1, 0, 0), 1);
        x.columnsAre(x.makes("column", 0, 0, 0), 0, 2);
        x.columnsAre(x.makes("drop", 0, 0, 2), 0);
        x.columnsAre(x.makes("column", 0, 0, 0), 0, 3);
        x.columnsAre(x.makes("drop", 0, 0, 0), 3);
        x.columnsAre(x.makes("column", 0, 0, 0), 3, 4);
        x.is(6 + 1, "branch", 0, 0);
        x.columnsAre(x.makes("column", 0, 0, 0), 5);
        x.is(6, "count", 1);
        x.is(0, "count", 2);
    }

    private static void columnNumbersOfRefusedCalls() {
        Calls x = calls("a NUMBER is not taken by a call that is refused");
        x.makes("column", 0, 0, 0);
        x.refused(BAD, "column", 0, 0, 4);
        for (int i = 1; i < 5; i++) {
            x.makes("column", 0, 0, 0);
        }
        x.refused(FULL, "column", 0, 0, 0);
        x.columnsAre(x.makes("column", 1, 0, 0), 5);
    }

    private static void rowNumbers() {
        Calls x = calls("A ROW has a NUMBER (likewise)");
        x.rowsAre(x.makes("row", 0, 0, 9), 0);
        x.rowsAre(x.makes("row", 1, 0, 9), 1);
        x.rowsAre(x.makes("row", 0, 0, 3), 0, 2);
        x.rowsAre(x.makes("gone", 0, 0, 3), 0);
        x.rowsAre(x.makes("row", 0, 0, 3), 0, 3);
        x.rowsAre(x.makes("gone", 0, 0, 9), 3);
        x.rowsAre(x.makes("row", 0, 0, 9), 3, 4);
        x.rowsAre(x.makes("move", 0, 0, 3, 50), 3, 4);
        x.is(8, "branch", 0, 0);
        x.rowsAre(x.makes("row", 0, 0, 9), 5);
        x.is(6, "count", 2);
        x.is(0, "count", 1);
    }

    private static void rowNumbersOfRefusedCalls() {
        Calls x = calls("a ROW's NUMBER is not taken by a call that is refused");
        x.makes("row", 0, 0, 0);
        x.refused(NO, "row", 0, 0, 0);
        x.refused(BAD, "row", 0, 0, 100);
        for (int key = 1; key < 16; key++) {
            x.makes("row", 0, 0, key);
        }
        x.refused(FULL, "row", 0, 0, 16);
        x.rowsAre(x.makes("row", 1, 0, 0), 16);
    }

    private static void numbersByMerge() {
        Calls x = calls("a merge makes no NUMBERS");
        x.makes("row", 0, 0, 1);
        x.makes("row", 1, 0, 2);
        x.makes("column", 0, 0, 0);
        x.makes("column", 1, 0, 0);
        int v = x.makes("merge", 0, 1, 0);
        x.rowsAre(v, 0, 1);
        x.columnsAre(v, 0, 1);
        x.is(2, "count", 1);
        x.is(2, "count", 2);
    }

    // ---- KIND, RULE, KEY, CELL

    private static void ruleChangedLast() {
        Calls x = calls("a RULE: that by which its KIND was changed last (0 before)");
        int v = x.makes("column", 0, 0, 1);
        x.is(1, "columnOf", v, 0, 1);
        x.is(0, "columnOf", v, 0, 2);
        for (int rule : new int[] {2, 1, 0, 1, 2, 0}) {
            v = x.makes("retype", 0, 0, 0, 3 - rule, rule);
            x.is(3 - rule, "columnOf", v, 0, 1);
            x.is(rule, "columnOf", v, 0, 2);
        }
        v = x.makes("retype", 0, 0, 0, 3, 2);
        x.is(3, "columnOf", v, 0, 1);
        x.is(2, "columnOf", v, 0, 2);
        x.is(0, "columnOf", 1, 0, 2);
    }

    private static void keysOfOneTable() {
        Calls x = calls("a KEY, of which no other ROW of the TABLE has the same");
        x.makes("row", 0, 0, 0);
        x.makes("row", 0, 0, 99);
        x.refused(NO, "row", 0, 0, 99);
        x.refused(NO, "move", 0, 0, 0, 99);
        x.makes("row", 1, 0, 99);
        x.makes("row", 1, 0, 0);
        x.refused(NO, "row", 1, 0, 0);
    }

    private static void cellIsEmptyOrNumber() {
        Calls x = calls("a CELL: it is EMPTY, or a number");
        x.makes("column", 0, 0, 0);
        int row = x.makes("row", 0, 0, 0);
        x.emptyIs(row, row, 0, 0);
        int zero = x.makes("cell", 0, 0, 0, 0, 0);
        x.numberIs(0, zero, zero, 0, 0);
        int empty = x.makes("empty", 0, 0, 0, 0);
        x.emptyIs(empty, empty, 0, 0);
        int minus = x.makes("cell", 0, 0, 0, 0, -1);
        x.numberIs(-1, minus, minus, 0, 0);
        int emptyAgain = x.makes("empty", 0, 0, 0, 0);
        x.emptyIs(emptyAgain, emptyAgain, 0, 0);
        x.numberIs(-1, minus, minus, 0, 0);
    }

    // ---- VERSIONS and BRANCHES

    private static void versionsAsTheyCome() {
        Calls x = calls("VERSIONS 0, 1, .. as they come");
        x.is(1, "row", 4, 0, 0);
        x.is(2, "row", 0, 0, 0);
        x.is(NO, "row", 0, 0, 0);
        x.is(BAD, "row", 0, 0, -1);
        x.is(1, "branch", 4, 2);
        x.is(NONE, "merge", 4, 0, 0);
        x.is(3, "column", 4, 0, 0);
        x.is(4, "merge", 0, 4, 0);
        x.is(5, "gone", 0, 0, 0);
        x.is(6, "count", 0);
    }

    private static void firstVersion() {
        Calls x = calls("VERSION 0, which has none, an empty TABLE, and the WHO 0");
        for (int round = 0; round < 2; round++) {
            x.is(0, "version", 0, 0);
            x.is(NONE, "version", 0, 1);
            x.is(NONE, "version", 0, 2);
            x.columnsAre(0);
            x.rowsAre(0);
            x.makes("column", 0, 9, 0);
            x.makes("row", 0, 9, round);
        }
        Calls y = calls("one parent");
        int v = y.makes("row", 0, 9, 0);
        y.is(9, "version", v, 0);
        y.is(0, "version", v, 1);
        y.is(NONE, "version", v, 2);
    }

    private static void branchesAtFirst() {
        Calls x = calls("BRANCHES 0 to 4 are at a VERSION each (at 0 at first)");
        x.refused(BAD, "at", -1);
        x.refused(BAD, "at", 5);
        for (int branch = 0; branch < 5; branch++) {
            x.is(0, "at", branch);
            int v = x.makes("row", branch, 0, 0);
            x.is(0, "version", v, 1);
            x.is(v, "at", branch);
        }
        for (int branch = 0; branch < 5; branch++) {
            x.is(branch + 1, "at", branch);
        }
    }

    private static void changeOnBranch() {
        Calls x = calls("whose parent is the one where the BRANCH is, and the BRANCH is there then");
        x.makes("column", 2, 0, 3);
        int row = x.makes("row", 2, 0, 0);
        x.is(0, "branch", 3, row);
        Calls.Call[] changes = {new Calls.Call("row", 2, 1, 5), new Calls.Call("cell", 2, 2, 0, 0, 7),
            new Calls.Call("empty", 2, 3, 0, 0), new Calls.Call("retype", 2, 4, 0, 2, 0),
            new Calls.Call("move", 2, 5, 0, 9), new Calls.Call("column", 2, 6, 0), new Calls.Call("drop", 2, 7, 0),
            new Calls.Call("gone", 2, 8, 9)};
        int parent = row;
        for (Calls.Call change : changes) {
            int v = x.makes(change.name(), change.numbers());
            x.is(change.numbers()[1], "version", v, 0);
            x.is(parent, "version", v, 1);
            x.is(NONE, "version", v, 2);
            x.is(v, "at", 2);
            x.is(row, "at", 3);
            parent = v;
        }
        x.emptyIs(row, row, 0, 0);
        x.rowsAre(row, 0);
        x.columnsAre(row, 0);
    }

    private static void versionsAhead() {
        Calls x = calls("VERSIONS AHEAD of one are itself, its parents, those ahead of them");
        int one = x.makes("row", 0, 0, 1);
        int two = x.makes("row", 1, 0, 2);
        int three = x.makes("row", 2, 0, 3);
        x.is(0, "base", one, two);
        x.is(one, "base", one, one);
        x.is(0, "base", 0, one);
        int merged = x.makes("merge", 0, 1, 0);
        x.is(one, "base", merged, one);
        x.is(two, "base", merged, two);
        x.is(0, "base", merged, three);
        int last = x.makes("merge", 0, 2, 0);
        x.is(one, "base", one, last);
        x.is(two, "base", two, last);
        x.is(three, "base", three, last);
        x.is(merged, "base", merged, last);
        x.is(last, "base", last, last);
        x.is(0, "base", last, 0);
    }

    // ---- CONVERTED

    /** A COLUMN of a KIND with a number in it, MADE by VERSION 3, with KEY 5; and what a RETYPE then does. */
    private static void converted(String rule, long v, int from, int to, int by, Long after) {
        Calls x = calls(rule + ": " + v + " of KIND " + from + " to KIND " + to);
        x.makes("column", 0, 0, from);
        x.makes("row", 0, 0, 5);
        x.is(3, "cell", 0, 0, 5, 0, v);
        if (after == null) {
            x.refused(NO, "retype", 0, 0, 0, to, by);
            return;
        }
        x.is(4, "retype", 0, 0, 0, to, by);
        x.numberIs(after, after == v ? 3 : 4, 4, 5, 0);
        x.numberIs(v, 3, 3, 5, 0);
        x.is(to, "columnOf", 4, 0, 1);
        x.is(by, "columnOf", 4, 0, 2);
    }

    private static void asItIs() {
        String rule = "RULE 0: as it is, if it is of the KIND; else it can not be";
        for (int to = 0; to < 3; to++) {
            for (int from = to + 1; from < 4; from++) {
                converted(rule, least(to), from, to, 0, least(to));
                converted(rule, greatest(to), from, to, 0, greatest(to));
                converted(rule, 0, from, to, 0, 0L);
                converted(rule, -1, from, to, 0, -1L);
                converted(rule, least(to) - 1, from, to, 0, null);
                converted(rule, greatest(to) + 1, from, to, 0, null);
                converted(rule, least(from), from, to, 0, null);
                converted(rule, greatest(from), from, to, 0, null);
            }
        }
    }

    private static void cut() {
        String rule = "RULE 1: CUT to the lowest bits";
        for (int to = 0; to < 3; to++) {
            for (int from = to + 1; from < 4; from++) {
                converted(rule, least(to), from, to, 1, least(to));
                converted(rule, greatest(to), from, to, 1, greatest(to));
                converted(rule, -1, from, to, 1, -1L);
                converted(rule, least(to) - 1, from, to, 1, greatest(to));
                converted(rule, greatest(to) + 1, from, to, 1, least(to));
                converted(rule, least(from), from, to, 1, 0L);
                converted(rule, greatest(from), from, to, 1, -1L);
                converted(rule, 2 * greatest(to) + 2, from, to, 1, 0L);
                converted(rule, 2 * greatest(to) + 1, from, to, 1, -1L);
                converted(rule, 2 * least(to) + 1, from, to, 1, 1L);
            }
        }
    }

    private static void cutOfFarNumbers() {
        String rule = "RULE 1: CUT to the lowest bits of many";
        converted(rule, 0x123456789ABCDEF0L, 3, 0, 1, (long) (byte) 0xF0);
        converted(rule, 0x123456789ABCDEF0L, 3, 1, 1, (long) (short) 0xDEF0);
        converted(rule, 0x123456789ABCDEF0L, 3, 2, 1, (long) 0x9ABCDEF0);
        converted(rule, 0x5BCDEF7F, 2, 0, 1, 0x7FL);
        converted(rule, 0x5BCDEF7F, 2, 1, 1, (long) (short) 0xEF7F);
        converted(rule, 0x5B80, 1, 0, 1, -128L);
    }

    private static void kept() {
        String rule = "RULE 2: KEPT: the nearest one that is of the KIND";
        for (int to = 0; to < 3; to++) {
            for (int from = to + 1; from < 4; from++) {
                converted(rule, least(to), from, to, 2, least(to));
                converted(rule, greatest(to), from, to, 2, greatest(to));
                converted(rule, -1, from, to, 2, -1L);
                converted(rule, least(to) - 1, from, to, 2, least(to));
                converted(rule, greatest(to) + 1, from, to, 2, greatest(to));
                converted(rule, least(from), from, to, 2, least(to));
                converted(rule, greatest(from), from, to, 2, greatest(to));
                converted(rule, 2 * greatest(to) + 2, from, to, 2, greatest(to));
            }
        }
    }

    private static void widened() {
        for (int by = 0; by < 3; by++) {
            for (int from = 0; from < 3; from++) {
                for (int to = from + 1; to < 4; to++) {
                    converted("a greater KIND has it by RULE " + by, least(from), from, to, by, least(from));
                    converted("a greater KIND has it by RULE " + by, greatest(from), from, to, by, greatest(from));
                }
            }
        }
    }

    private static void sameKind() {
        for (int by = 0; by < 3; by++) {
            for (int kind = 0; kind < 4; kind++) {
                converted("the same KIND has it by RULE " + by, least(kind), kind, kind, by, least(kind));
                converted("the same KIND has it by RULE " + by, greatest(kind), kind, kind, by, greatest(kind));
            }
        }
    }

    private static void emptyConverted() {
        for (int by = 0; by < 3; by++) {
            Calls x = calls("its CELLS that are not EMPTY are CONVERTED, by RULE " + by);
            x.makes("column", 0, 0, 3);
            int row = x.makes("row", 0, 0, 5);
            int v = x.makes("retype", 0, 0, 0, 0, by);
            x.emptyIs(row, v, 5, 0);
            x.makes("retype", 0, 0, 0, 3, 0);
            x.makes("cell", 0, 0, 5, 0, 1000);
            int empty = x.makes("empty", 0, 0, 5, 0);
            v = x.makes("retype", 0, 0, 0, 0, by);
            x.emptyIs(empty, v, 5, 0);
        }
    }

    // ---- CHANGES

    private static void rowComes() {
        Calls x = calls("ROW: a new ROW with a KEY, its CELLS EMPTY, made");
        x.is(2, "version", twoColumns(x), 3);
        int first = x.makes("row", 0, 0, 50);
        int cell = x.makes("cell", 0, 0, 50, 1, 7);
        int second = x.makes("row", 0, 0, 0);
        x.rowsAre(second, 0, 1);
        x.is(50, "rowOf", second, 0, 1);
        x.is(0, "rowOf", second, 1, 1);
        x.emptyIs(second, second, 0, 0);
        x.emptyIs(second, second, 0, 1);
        x.emptyIs(first, second, 50, 0);
        x.numberIs(7, cell, second, 50, 1);
        x.makes("gone", 0, 0, 50);
        int again = x.makes("row", 0, 0, 50);
        x.emptyIs(again, again, 50, 1);
        x.emptyIs(second, again, 0, 1);
    }

    private static int twoColumns(Calls x) {
        x.makes("column", 0, 0, 3);
        return x.makes("column", 0, 0, 3);
    }

    private static void rowGoes() {
        for (int gone = 0; gone < 3; gone++) {
            Calls x = calls("GONE: a ROW goes: the one at " + gone);
            int at = threeByThree(x);
            int v = x.makes("gone", 0, 0, 10 + gone);
            for (int row = 0; row < 3; row++) {
                for (int column = 0; column < 3; column++) {
                    x.is(row == gone ? NO : 1, "has", v, 10 + row, column);
                    x.is(row == gone ? 0 : 10 * row + column, "value", v, 10 + row, column);
                    x.is(row == gone ? NO : 7 + 3 * row + column, "madeBy", v, 10 + row, column);
                    x.numberIs(10 * row + column, 7 + 3 * row + column, at, 10 + row, column);
                }
            }
            x.rowsAre(v, gone == 0 ? 1 : 0, gone == 2 ? 1 : 2);
            x.columnsAre(v, 0, 1, 2);
        }
    }

    /** COLUMNS 0 to 2, ROWS 0 to 2 (KEYS 10 to 12), in each CELL 10 * ROW + COLUMN, MADE by 7 + 3 * ROW + COLUMN. */
    private static int threeByThree(Calls x) {
        for (int i = 0; i < 3; i++) {
            x.makes("column", 0, 0, 2);
            x.makes("row", 0, 0, 10 + i);
        }
        for (int row = 0; row < 3; row++) {
            for (int column = 0; column < 3; column++) {
                x.is(7 + 3 * row + column, "cell", 0, 0, 10 + row, column, 10 * row + column);
            }
        }
        return 15;
    }

    private static void cellMadeAlsoIfItWasSo() {
        Calls x = calls("CELL: made (also if it was so)");
        twoColumns(x);
        int row = x.makes("row", 0, 0, 5);
        int first = x.makes("cell", 0, 0, 5, 0, 7);
        int second = x.makes("cell", 0, 0, 5, 0, 7);
        x.numberIs(7, first, first, 5, 0);
        x.numberIs(7, second, second, 5, 0);
        x.emptyIs(row, second, 5, 1);
        int empty = x.makes("empty", 0, 0, 5, 1);
        x.emptyIs(empty, empty, 5, 1);
        x.numberIs(7, second, empty, 5, 0);
        int again = x.makes("empty", 0, 0, 5, 1);
        x.emptyIs(again, again, 5, 1);
    }

    private static void columnComes() {
        Calls x = calls("COLUMN: a new one of a KIND, RULE 0, its CELLS EMPTY, made");
        for (int key = 0; key < 16; key++) {
            x.makes("row", 0, 0, key);
        }
        for (int column = 0; column < 5; column++) {
            int v = x.makes("column", 0, 0, column % 4);
            x.is(column, "columnOf", v, column, 0);
            x.is(column % 4, "columnOf", v, column, 1);
            x.is(0, "columnOf", v, column, 2);
            for (int key = 0; key < 16; key++) {
                x.emptyIs(v, v, key, column);
                x.is(17, "madeBy", v, key, 0);
            }
        }
    }

    private static void columnGoes() {
        for (int gone = 0; gone < 3; gone++) {
            Calls x = calls("DROP: a COLUMN goes: the one at " + gone);
            threeByThree(x);
            x.makes("retype", 0, 0, 2, 3, 1);
            int v = x.makes("drop", 0, 0, gone);
            for (int row = 0; row < 3; row++) {
                for (int column = 0; column < 3; column++) {
                    x.is(column == gone ? NO : 1, "has", v, 10 + row, column);
                    x.is(column == gone ? 0 : 10 * row + column, "value", v, 10 + row, column);
                    x.is(column == gone ? NO : 7 + 3 * row + column, "madeBy", v, 10 + row, column);
                }
            }
            x.columnsAre(v, gone == 0 ? 1 : 0, gone == 2 ? 1 : 2);
            x.is(gone == 2 ? 2 : 3, "columnOf", v, 1, 1);
            x.is(gone == 2 ? 0 : 1, "columnOf", v, 1, 2);
            x.rowsAre(v, 0, 1, 2);
        }
    }

    private static void retypeMakesOtherNumbers() {
        Calls x = calls("RETYPE: those that become other numbers are made");
        x.makes("column", 0, 0, 1);
        long[] before = {127, 128, -128, -129, 0};
        long[] after = {127, 127, -128, -128, 0};
        for (int key = 0; key < 5; key++) {
            x.makes("row", 0, 0, key);
        }
        int empty = x.makes("row", 0, 0, 5);
        for (int key = 0; key < 5; key++) {
            x.is(8 + key, "cell", 0, 0, key, 0, before[key]);
        }
        int v = x.makes("retype", 0, 0, 0, 0, 2);
        for (int key = 0; key < 5; key++) {
            x.numberIs(after[key], after[key] == before[key] ? 8 + key : v, v, key, 0);
        }
        x.emptyIs(empty, v, 5, 0);
    }

    private static void retypeOfOneColumn() {
        Calls x = calls("RETYPE: the COLUMN gets a KIND and a RULE, no other does");
        twoColumns(x);
        x.makes("row", 0, 0, 5);
        x.makes("cell", 0, 0, 5, 0, 1000);
        int other = x.makes("cell", 0, 0, 5, 1, 1000);
        int v = x.makes("retype", 0, 0, 0, 0, 1);
        x.numberIs(-24, v, v, 5, 0);
        x.numberIs(1000, other, v, 5, 1);
        x.is(3, "columnOf", v, 1, 1);
        x.is(0, "columnOf", v, 1, 2);
        x.refused(BAD, "cell", 0, 0, 5, 0, 128);
        x.makes("cell", 0, 0, 5, 1, 128);
    }

    private static void moveMakesNoCells() {
        Calls x = calls("MOVE: a ROW gets another KEY (its CELLS are not made)");
        int at = threeByThree(x);
        int v = x.makes("move", 0, 0, 11, 99);
        for (int column = 0; column < 3; column++) {
            x.numberIs(10 + column, 10 + column, v, 99, column);
            x.numberIs(column, 7 + column, v, 10, column);
            x.is(NO, "has", v, 11, column);
            x.numberIs(10 + column, 10 + column, at, 11, column);
        }
        x.rowsAre(v, 0, 1, 2);
        x.is(99, "rowOf", v, 1, 1);
        int back = x.makes("move", 0, 0, 99, 11);
        x.differencesAre(at, back);
    }

    private static void ofSeveralTheFirst() {
        Calls x = calls("BAD, NO, FULL: of several the first; nothing changes then");
        for (int column = 0; column < 5; column++) {
            x.makes("column", 0, 0, 1);
        }
        for (int key = 0; key < 16; key++) {
            x.makes("row", 0, 0, key);
        }
        x.makes("cell", 0, 0, 0, 0, 1000);
        x.refused(BAD, "row", 0, -1, 0);
        x.refused(NO, "row", 0, 0, 0);
        x.refused(FULL, "row", 0, 0, 16);
        x.refused(BAD, "gone", 5, 0, 16);
        x.refused(BAD, "cell", 0, 0, 16, 5, 1000000);
        x.refused(NO, "cell", 0, 0, 16, 4, 1000000);
        x.refused(BAD, "cell", 0, 0, 15, 4, 1000000);
        x.refused(BAD, "empty", 0, 0, 16, 5);
        x.refused(NO, "empty", 0, 0, 16, 4);
        x.refused(BAD, "column", 0, 0, 4);
        x.refused(FULL, "column", 0, 0, 3);
        x.refused(BAD, "drop", 1, 10, 0);
        x.refused(NO, "drop", 1, 9, 0);
        x.refused(BAD, "retype", 0, 0, 0, 0, 3);
        x.refused(NO, "retype", 0, 0, 0, 0, 0);
        x.refused(BAD, "move", 0, 0, 16, 100);
        x.refused(NO, "move", 0, 0, 16, 0);
    }
}
