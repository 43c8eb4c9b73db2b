/** The document's third part: what a merge makes of columns, rows and cells, and each sort of clash. */
public final class MergeTest {
    private static final int BAD = -1, NO = -2, NONE = -4;
    private static final Due DUE = new Due();

    private static void due(String call, long got, long want) {
        DUE.is(call, got, want);
    }

    public static void main(String[] args) {
        cellsOfBoth();
        alikeInBoth();
        notChangedThoughMade();
        newRowsAndColumns();
        goneWithoutChange();
        keysFollowed();
        kindOfOther();
        kindOfOwn();
        kindInBothAlike();
        baseThatCanNotBe();
        newRowConverted();
        columnClash();
        columnClashElsewhere();
        kindClash();
        kindAgainstRule();
        ruleClash();
        ruleOfRowsThatGo();
        rowClash();
        rowClashConverted();
        keyClash();
        cellClashOrder();
        sameKey();
        size();
        sameKeyAndSize();
        othersShutLast();
        crissCross();
        crissCrossRowGone();
        wideColumns();
        wideColumnClash();
        wideRows();
        DUE.end();
    }

    /** Columns 0 (16 bits) and 1 (32 bits), rows 0, 1, 2 with the keys 10, 11, 12; branches 0 and 1 at version 6. */
    private static TableHistories start() {
        TableHistories x = new TableHistories();
        x.column(0, 0, 1);
        x.column(0, 0, 2);
        for (int key = 10; key < 13; key++) {
            x.row(0, 0, key);
        }
        due("start", x.cell(0, 0, 10, 0, 500), 6);
        x.branch(1, 6);
        return x;
    }

    private static int merged(TableHistories x, int branch, int other) {
        int v = x.count(0);
        due("merge(" + branch + ", " + other + ", 9)", x.merge(branch, other, 9), v);
        return v;
    }

    private static void clashes(TableHistories x, int branch, int other, int[]... all) {
        int versions = x.count(0);
        int at = x.at(branch);
        due("merge with clashes", x.merge(branch, other, 9), NO);
        due("versions stay", x.count(0), versions);
        due("the branch stays", x.at(branch), at);
        due("clashes", x.count(3), all.length);
        for (int i = 0; i < all.length; i++) {
            for (int what = 0; what < 3; what++) {
                due("clash(" + i + ", " + what + ")", x.clash(i, what), all[i][what]);
            }
        }
        due("behind the last", x.clash(all.length, 0), NONE);
    }

    private static int[] clash(int sort, int row, int column) {
        return new int[] {sort, row, column};
    }

    private static void cellIs(TableHistories x, int v, int key, int column, long number, int maker) {
        String name = "cell of " + v + " at " + key + ", " + column;
        due(name + " has", x.has(v, key, column), 1);
        due(name + " value", x.value(v, key, column), number);
        due(name + " maker", x.madeBy(v, key, column), maker);
    }

    private static void emptyIs(TableHistories x, int v, int key, int column, int maker) {
        String name = "empty cell of " + v + " at " + key + ", " + column;
        due(name + " has", x.has(v, key, column), 0);
        due(name + " maker", x.madeBy(v, key, column), maker);
    }

    private static void cellsOfBoth() {
        TableHistories x = start();
        due("a", x.cell(0, 0, 11, 0, 1), 7);
        due("b", x.cell(1, 0, 12, 1, 2), 8);
        due("b", x.empty(1, 0, 10, 0), 9);
        int v = merged(x, 0, 1);
        cellIs(x, v, 11, 0, 1, 7);
        cellIs(x, v, 12, 1, 2, 8);
        emptyIs(x, v, 10, 0, 9);
        emptyIs(x, v, 11, 1, 4);
        due("who", x.version(v, 0), 9);
        due("parents", x.version(v, 1), 7);
        due("parents", x.version(v, 2), 9);
        due("at", x.at(0), v);
        due("at the other", x.at(1), 9);
    }

    private static void alikeInBoth() {
        TableHistories x = start();
        x.cell(1, 0, 10, 0, 7);
        x.cell(0, 0, 10, 0, 7);
        x.empty(0, 0, 11, 0);
        int v = merged(x, 0, 1);
        cellIs(x, v, 10, 0, 7, 7);
        emptyIs(x, v, 11, 0, 9);
        x = start();
        x.empty(0, 0, 10, 0);
        x.empty(1, 0, 10, 0);
        v = merged(x, 0, 1);
        emptyIs(x, v, 10, 0, 7);
        x = start();
        x.empty(1, 0, 10, 0);
        x.empty(0, 0, 10, 0);
        v = merged(x, 0, 1);
        emptyIs(x, v, 10, 0, 7);
    }

    private static void notChangedThoughMade() {
        TableHistories x = start();
        x.cell(1, 0, 10, 0, 500);
        int v = merged(x, 0, 1);
        cellIs(x, v, 10, 0, 500, 6);
        x = start();
        x.cell(0, 0, 10, 0, 500);
        x.cell(1, 0, 10, 0, 5);
        v = merged(x, 0, 1);
        cellIs(x, v, 10, 0, 5, 8);
    }

    private static void newRowsAndColumns() {
        TableHistories x = start();
        x.row(0, 0, 20);
        x.cell(0, 0, 20, 0, 3);
        x.column(0, 0, 0);
        x.cell(0, 0, 20, 2, 4);
        x.cell(0, 0, 10, 2, 6);
        x.row(1, 0, 30);
        x.column(1, 0, 3);
        x.cell(1, 0, 30, 3, 8);
        int v = merged(x, 0, 1);
        due("columns", x.version(v, 3), 4);
        due("rows", x.version(v, 4), 5);
        due("row 3", x.rowOf(v, 3, 1), 20);
        due("row 4", x.rowOf(v, 4, 1), 30);
        due("kind of column 2", x.columnOf(v, 2, 1), 0);
        due("kind of column 3", x.columnOf(v, 3, 1), 3);
        cellIs(x, v, 20, 0, 3, 8);
        cellIs(x, v, 20, 2, 4, 10);
        cellIs(x, v, 10, 2, 6, 11);
        cellIs(x, v, 30, 3, 8, 14);
        emptyIs(x, v, 30, 0, 12);
        emptyIs(x, v, 10, 3, 13);
        emptyIs(x, v, 20, 3, v);
        emptyIs(x, v, 30, 2, v);
    }

    private static void goneWithoutChange() {
        TableHistories x = start();
        x.gone(0, 0, 11);
        x.drop(0, 0, 1);
        x.cell(1, 0, 12, 0, 4);
        int v = merged(x, 0, 1);
        due("columns", x.version(v, 3), 1);
        due("rows", x.version(v, 4), 2);
        cellIs(x, v, 12, 0, 4, 9);
        x = start();
        x.gone(1, 0, 11);
        x.drop(1, 0, 1);
        x.gone(0, 0, 11);
        v = merged(x, 0, 1);
        due("columns", x.version(v, 3), 1);
        due("rows", x.version(v, 4), 2);
        x = start();
        x.gone(0, 0, 11);
        x.column(1, 0, 0);
        x.cell(1, 0, 11, 2, 5);
        v = merged(x, 0, 1);
        due("a cell in a new column holds no row", x.version(v, 4), 2);
    }

    private static void keysFollowed() {
        TableHistories x = start();
        x.move(0, 0, 10, 50);
        x.cell(1, 0, 10, 0, 9);
        x.move(1, 0, 11, 51);
        int v = merged(x, 0, 1);
        cellIs(x, v, 50, 0, 9, 8);
        due("the other's key", x.rowOf(v, 1, 1), 51);
        due("own key", x.rowOf(v, 0, 1), 50);
        x = start();
        x.move(0, 0, 10, 50);
        x.move(1, 0, 10, 50);
        v = merged(x, 0, 1);
        due("alike", x.rowOf(v, 0, 1), 50);
        x = start();
        x.move(1, 0, 10, 50);
        x.move(1, 0, 11, 10);
        x.cell(0, 0, 11, 0, 9);
        v = merged(x, 0, 1);
        due("a key that was freed", x.rowOf(v, 1, 1), 10);
        cellIs(x, v, 10, 0, 9, 9);
    }

    /** b changed the kind: a's cells are converted, made as they were. */
    private static void kindOfOther() {
        TableHistories x = start();
        x.cell(0, 0, 11, 0, 1000);
        x.cell(1, 0, 12, 0, 300);
        x.retype(1, 0, 0, 0, 2);
        int v = merged(x, 0, 1);
        due("kind", x.columnOf(v, 0, 1), 0);
        due("rule", x.columnOf(v, 0, 2), 2);
        cellIs(x, v, 10, 0, 127, 6);
        cellIs(x, v, 11, 0, 127, 7);
        cellIs(x, v, 12, 0, 127, 9);
    }

    /** a changed the kind: b's cells are converted; what is like the base then is not changed. */
    private static void kindOfOwn() {
        TableHistories x = start();
        x.retype(0, 0, 0, 0, 1);
        x.cell(1, 0, 10, 0, 500 + 256);
        x.cell(1, 0, 11, 0, 300);
        int v = merged(x, 0, 1);
        due("kind", x.columnOf(v, 0, 1), 0);
        due("rule", x.columnOf(v, 0, 2), 1);
        cellIs(x, v, 10, 0, -12, 7);
        cellIs(x, v, 11, 0, 44, 9);
    }

    private static void kindInBothAlike() {
        TableHistories x = start();
        x.retype(0, 0, 0, 0, 2);
        x.retype(1, 0, 0, 0, 2);
        x.cell(1, 0, 10, 0, 3);
        int v = merged(x, 0, 1);
        cellIs(x, v, 10, 0, 3, 9);
        x = start();
        x.retype(0, 0, 0, 0, 2);
        x.retype(1, 0, 0, 0, 2);
        v = merged(x, 1, 0);
        cellIs(x, v, 10, 0, 127, 8);
    }

    /** The base's 500 is none of 8 bits: each cell against it is changed. */
    private static void baseThatCanNotBe() {
        TableHistories x = start();
        x.cell(0, 0, 10, 0, 5);
        x.retype(0, 0, 0, 0, 0);
        x.cell(1, 0, 10, 0, 5);
        int v = merged(x, 0, 1);
        cellIs(x, v, 10, 0, 5, 7);
        x = start();
        x.cell(0, 0, 10, 0, 5);
        x.retype(0, 0, 0, 0, 0);
        x.cell(1, 0, 10, 0, 6);
        clashes(x, 0, 1, clash(6, 0, 0));
        x = start();
        x.cell(0, 0, 10, 0, 5);
        x.retype(0, 0, 0, 0, 0);
        x.cell(1, 0, 11, 1, 8);
        clashes(x, 0, 1, clash(3, 0, 0));
        clashes(x, 1, 0, clash(3, 0, 0));
    }

    private static void newRowConverted() {
        TableHistories x = start();
        x.row(0, 0, 20);
        x.cell(0, 0, 20, 0, -1000);
        x.retype(1, 0, 0, 0, 2);
        int v = merged(x, 0, 1);
        cellIs(x, v, 20, 0, -128, 8);
        x = start();
        x.row(0, 0, 20);
        x.cell(0, 0, 20, 0, -1000);
        x.empty(1, 0, 10, 0);
        x.retype(1, 0, 0, 0, 0);
        clashes(x, 0, 1, clash(3, 0, 0), clash(3, 3, 0));
        clashes(x, 1, 0, clash(3, 0, 0), clash(3, 3, 0));
    }

    private static void columnClash() {
        TableHistories x = start();
        x.drop(0, 0, 0);
        x.cell(1, 0, 12, 0, 5);
        clashes(x, 0, 1, clash(1, NONE, 0));
        clashes(x, 1, 0, clash(1, NONE, 0));
        x = start();
        x.drop(0, 0, 0);
        x.retype(1, 0, 0, 1, 1);
        clashes(x, 0, 1, clash(1, NONE, 0));
        x = start();
        x.drop(0, 0, 1);
        x.drop(0, 0, 0);
        x.retype(1, 0, 0, 2, 0);
        x.cell(1, 0, 11, 1, 0);
        clashes(x, 0, 1, clash(1, NONE, 0), clash(1, NONE, 1));
        x = start();
        x.drop(0, 0, 0);
        x.cell(1, 0, 10, 0, 500);
        due("made, but not changed", x.version(merged(x, 0, 1), 3), 1);
    }

    /** A new row's cell is none of a row of the base, and one of a row that went is not there. */
    private static void columnClashElsewhere() {
        TableHistories x = start();
        x.drop(0, 0, 0);
        x.row(1, 0, 20);
        x.cell(1, 0, 20, 0, 5);
        int v = merged(x, 0, 1);
        due("columns", x.version(v, 3), 1);
        emptyIs(x, v, 20, 1, 8);
        x = start();
        x.drop(0, 0, 0);
        x.cell(1, 0, 10, 0, 5);
        x.gone(1, 0, 10);
        due("columns", x.version(merged(x, 0, 1), 3), 1);
        x = start();
        x.drop(0, 0, 0);
        x.gone(0, 0, 10);
        x.cell(1, 0, 10, 0, 5);
        clashes(x, 0, 1, clash(1, NONE, 0));
    }

    private static void kindClash() {
        TableHistories x = start();
        x.retype(0, 0, 0, 2, 0);
        x.retype(1, 0, 0, 3, 0);
        x.cell(0, 0, 11, 0, 1);
        x.cell(1, 0, 11, 0, 2);
        x.cell(0, 0, 11, 1, 1);
        x.cell(1, 0, 11, 1, 2);
        clashes(x, 0, 1, clash(2, NONE, 0), clash(6, 1, 1));
        x = start();
        x.retype(0, 0, 0, 2, 0);
        x.retype(1, 0, 0, 2, 0);
        due("alike", x.columnOf(merged(x, 0, 1), 0, 1), 2);
    }

    private static void kindAgainstRule() {
        TableHistories x = start();
        x.retype(0, 0, 0, 2, 0);
        x.retype(1, 0, 0, 1, 2);
        clashes(x, 0, 1, clash(2, NONE, 0));
        x = start();
        x.retype(0, 0, 0, 1, 1);
        x.retype(1, 0, 0, 1, 2);
        x.gone(0, 0, 10);
        x.cell(1, 0, 10, 0, 1);
        clashes(x, 0, 1, clash(2, NONE, 0));
    }

    private static void ruleClash() {
        TableHistories x = start();
        x.empty(0, 0, 10, 0);
        x.retype(0, 0, 0, 0, 0);
        x.retype(0, 0, 1, 1, 0);
        x.cell(1, 0, 12, 1, 70000);
        x.cell(1, 0, 12, 0, 1000);
        x.cell(1, 0, 11, 1, -70000);
        x.cell(1, 0, 11, 0, 100);
        clashes(x, 0, 1, clash(3, 0, 0), clash(3, 1, 1), clash(3, 2, 0), clash(3, 2, 1));
        clashes(x, 1, 0, clash(3, 0, 0), clash(3, 1, 1), clash(3, 2, 0), clash(3, 2, 1));
    }

    /** A row that is gone in the other is no clash 3, but what can not be converted is changed: a clash 4. */
    private static void ruleOfRowsThatGo() {
        TableHistories x = start();
        x.gone(0, 0, 10);
        x.retype(0, 0, 0, 0, 0);
        x.cell(1, 0, 11, 1, 8);
        clashes(x, 0, 1, clash(4, 0, NONE));
        clashes(x, 1, 0, clash(4, 0, NONE));
        x = start();
        x.gone(0, 0, 10);
        x.retype(0, 0, 0, 0, 1);
        x.cell(1, 0, 11, 1, 8);
        due("converted, and like the base", x.version(merged(x, 0, 1), 4), 2);
    }

    private static void rowClash() {
        TableHistories x = start();
        x.gone(0, 0, 12);
        x.gone(0, 0, 10);
        x.gone(0, 0, 11);
        x.move(1, 0, 12, 60);
        x.cell(1, 0, 11, 1, 5);
        clashes(x, 0, 1, clash(4, 1, NONE), clash(4, 2, NONE));
        clashes(x, 1, 0, clash(4, 1, NONE), clash(4, 2, NONE));
        x = start();
        x.gone(0, 0, 10);
        x.drop(0, 0, 0);
        x.cell(1, 0, 11, 1, 8);
        x.cell(1, 0, 11, 1, 9);
        due("a column that went holds no row", x.version(merged(x, 0, 1), 4), 2);
    }

    private static void rowClashConverted() {
        TableHistories x = start();
        x.gone(0, 0, 10);
        x.retype(1, 0, 0, 0, 2);
        due("the kind alone changes no cell", x.version(merged(x, 0, 1), 4), 2);
        x = start();
        x.gone(0, 0, 10);
        x.retype(1, 0, 0, 0, 2);
        x.cell(1, 0, 10, 0, 126);
        clashes(x, 0, 1, clash(4, 0, NONE));
        x = start();
        x.gone(0, 0, 10);
        x.retype(0, 0, 0, 0, 2);
        x.cell(1, 0, 10, 0, 400);
        due("400 and 500 are kept alike", x.version(merged(x, 0, 1), 4), 2);
    }

    private static void keyClash() {
        TableHistories x = start();
        x.move(0, 0, 12, 50);
        x.move(1, 0, 12, 51);
        x.move(0, 0, 10, 60);
        x.move(1, 0, 10, 61);
        x.cell(0, 0, 60, 0, 1);
        x.cell(1, 0, 61, 0, 2);
        clashes(x, 0, 1, clash(5, 0, NONE), clash(5, 2, NONE), clash(6, 0, 0));
    }

    private static void cellClashOrder() {
        TableHistories x = start();
        x.cell(0, 0, 12, 0, 1);
        x.cell(0, 0, 11, 1, 1);
        x.cell(0, 0, 11, 0, 1);
        x.empty(0, 0, 10, 0);
        x.cell(1, 0, 12, 0, 2);
        x.cell(1, 0, 11, 1, 2);
        x.cell(1, 0, 11, 0, 2);
        x.cell(1, 0, 10, 0, 0);
        x.gone(0, 0, 12);
        clashes(x, 0, 1, clash(4, 2, NONE), clash(6, 0, 0), clash(6, 1, 0), clash(6, 1, 1));
    }

    private static void sameKey() {
        TableHistories x = start();
        x.row(0, 0, 20);
        x.row(0, 0, 21);
        x.row(1, 0, 21);
        x.row(1, 0, 20);
        clashes(x, 0, 1, clash(7, 5, NONE), clash(7, 6, NONE));
        x = start();
        x.move(0, 0, 10, 70);
        x.row(1, 0, 70);
        clashes(x, 0, 1, clash(7, 3, NONE));
        x = start();
        x.row(0, 0, 70);
        x.move(1, 0, 10, 70);
        clashes(x, 0, 1, clash(7, 3, NONE));
        x = start();
        x.gone(0, 0, 10);
        x.row(0, 0, 10);
        x.cell(1, 0, 11, 1, 8);
        due("the one that went has none", x.version(merged(x, 0, 1), 4), 3);
    }

    private static void size() {
        TableHistories x = start();
        x.column(0, 0, 0);
        x.column(0, 0, 0);
        x.column(1, 0, 0);
        due("five columns go", x.version(merged(x, 0, 1), 3), 5);
        x.branch(2, 6);
        x.column(2, 0, 0);
        clashes(x, 0, 2, clash(8, NONE, NONE));
        x.drop(0, 0, 0);
        due("with one gone it goes", x.version(merged(x, 0, 2), 3), 5);

        x = start();
        for (int key = 20; key < 27; key++) {
            x.row(0, 0, key);
        }
        for (int key = 30; key < 36; key++) {
            x.row(1, 0, key);
        }
        x.branch(2, x.at(1));
        due("16 rows go", x.version(merged(x, 2, 0), 4), 16);
        x.row(1, 0, 36);
        clashes(x, 0, 1, clash(8, NONE, NONE));
    }

    private static void sameKeyAndSize() {
        TableHistories x = new TableHistories();
        for (int key = 0; key < 16; key++) {
            x.row(0, 0, key);
        }
        for (int key = 15; key < 31; key++) {
            x.row(1, 0, key);
        }
        clashes(x, 0, 1, clash(7, 16, NONE), clash(8, NONE, NONE));
    }

    private static void othersShutLast() {
        TableHistories x = start();
        x.row(0, 0, 20);
        x.row(1, 0, 20);
        x.cell(0, 0, 10, 0, 1);
        x.cell(1, 0, 10, 0, 2);
        clashes(x, 0, 1, clash(6, 0, 0));
    }

    /** Two merges across: what came by the lesser of the two common versions is in both, and not in the base. */
    private static TableHistories across() {
        TableHistories x = start();
        x.row(0, 0, 20);
        x.column(0, 0, 2);
        due("a", x.cell(0, 0, 20, 2, 4), 9);
        due("b", x.cell(1, 0, 11, 0, 3), 10);
        x.branch(2, 9);
        x.branch(3, 10);
        due("across", x.merge(2, 1, 0), 11);
        due("across", x.merge(3, 0, 0), 12);
        due("the base", x.base(11, 12), 10);
        return x;
    }

    private static void crissCross() {
        TableHistories x = across();
        int v = merged(x, 2, 3);
        cellIs(x, v, 20, 2, 4, 9);
        cellIs(x, v, 11, 0, 3, 10);
        emptyIs(x, v, 11, 2, 8);
        x = across();
        x.cell(2, 0, 20, 2, 5);
        clashes(x, 2, 3, clash(6, 3, 2));
        x = across();
        x.move(3, 0, 20, 21);
        clashes(x, 2, 3, clash(5, 3, NONE));
        x = across();
        x.retype(3, 0, 2, 3, 0);
        clashes(x, 2, 3, clash(2, NONE, 2));
    }

    private static void crissCrossRowGone() {
        TableHistories x = across();
        x.gone(3, 0, 20);
        due("new in the one", x.version(merged(x, 2, 3), 4), 4);
        x = across();
        x.gone(3, 0, 12);
        clashes(x, 2, 3, clash(4, 2, NONE));
        x = across();
        x.drop(3, 0, 2);
        x.gone(3, 0, 12);
        int v = merged(x, 2, 3);
        due("the column is new in the one", x.version(v, 3), 3);
        due("the row went", x.version(v, 4), 3);
        due("BAD", x.has(v + 1, 20, 2), BAD);
    }

    /** Columns 0 to 3 come by branch 2, 4 to 8 are those of the base, of which branch 0 dropped 4 to 7. */
    private static TableHistories wide() {
        TableHistories x = new TableHistories();
        for (int i = 0; i < 4; i++) {
            x.column(2, 0, 3);
        }
        for (int i = 0; i < 5; i++) {
            x.column(0, 0, 2);
        }
        x.row(0, 0, 10);
        due("wide", x.cell(0, 0, 10, 8, 300), 11);
        x.branch(1, 11);
        for (int column = 4; column < 8; column++) {
            x.drop(0, 0, column);
        }
        due("wide", x.merge(0, 2, 0), 16);
        return x;
    }

    private static void wideColumns() {
        TableHistories x = wide();
        x.retype(1, 0, 8, 0, 1);
        int v = merged(x, 0, 1);
        due("columns", x.version(v, 3), 5);
        due("number", x.columnOf(v, 4, 0), 8);
        due("kind", x.columnOf(v, 4, 1), 0);
        due("rule", x.columnOf(v, 4, 2), 1);
        cellIs(x, v, 10, 8, 44, 11);
        emptyIs(x, v, 10, 0, 16);
        x = wide();
        x.retype(1, 0, 8, 0, 1);
        x.cell(1, 0, 10, 8, 7);
        x.retype(0, 0, 8, 1, 2);
        x.cell(0, 0, 10, 8, 8);
        clashes(x, 0, 1, clash(2, NONE, 8));
    }

    private static void wideColumnClash() {
        TableHistories x = wide();
        x.drop(0, 0, 8);
        x.column(0, 0, 0);
        x.cell(1, 0, 10, 7, 1);
        x.cell(1, 0, 10, 8, 1);
        clashes(x, 0, 1, clash(1, NONE, 7), clash(1, NONE, 8));
        clashes(x, 1, 0, clash(1, NONE, 7), clash(1, NONE, 8));
    }

    private static void wideRows() {
        TableHistories x = new TableHistories();
        for (int key = 0; key < 16; key++) {
            x.row(2, 0, key);
        }
        for (int key = 20; key < 36; key++) {
            x.row(0, 0, key);
        }
        x.branch(1, x.at(0));
        for (int key = 20; key < 36; key++) {
            x.gone(0, 0, key);
        }
        merged(x, 0, 2);
        x.move(1, 0, 35, 99);
        x.move(1, 0, 20, 98);
        clashes(x, 0, 1, clash(4, 16, NONE), clash(4, 31, NONE));
        x.move(1, 0, 99, 35);
        x.move(1, 0, 98, 20);
        int v = merged(x, 0, 1);
        due("rows", x.version(v, 4), 16);
        due("the last row", x.rowOf(v, 15, 0), 15);
    }
}
