/** Each promise of the document, one after the other: ordinary calls, the edges, and wrong numbers. */
public final class PromisesTest {
    private static final int BAD = -1, NO = -2, FULL = -3, NONE = -4;
    private static final Due DUE = new Due();

    private static void due(String call, long got, long want) {
        DUE.is(call, got, want);
    }

    public static void main(String[] args) {
        newObject();
        row();
        rowFull();
        gone();
        cell();
        cellKinds();
        empty();
        column();
        drop();
        retype();
        retypeRules();
        move();
        branchAndAt();
        merge();
        clash();
        base();
        version();
        columnOf();
        rowOf();
        readingCells();
        differences();
        differenceOrder();
        manyDifferences();
        count();
        fullOfVersions();
        DUE.end();
    }

    /** A column 0 of 16 bits, a row 0 with the key 5; versions 1 and 2. */
    private static TableHistories small() {
        TableHistories x = new TableHistories();
        due("column(0, 1, 1)", x.column(0, 1, 1), 1);
        due("row(0, 1, 5)", x.row(0, 1, 5), 2);
        return x;
    }

    private static void newObject() {
        TableHistories x = new TableHistories();
        due("1: count(0)", x.count(0), 1);
        for (int branch = 0; branch < 5; branch++) {
            due("1: at", x.at(branch), 0);
        }
        for (int what = 0; what < 5; what++) {
            due("1: version(0, " + what + ")", x.version(0, what), what == 1 || what == 2 ? NONE : 0);
        }
        due("1: clash(0, 0)", x.clash(0, 0), NONE);
        due("1: count(1)", x.count(1), 0);
        due("1: count(2)", x.count(2), 0);
        due("1: count(3)", x.count(3), 0);
    }

    private static void row() {
        TableHistories x = new TableHistories();
        due("2: row(-1, 0, 0)", x.row(-1, 0, 0), BAD);
        due("2: row(5, 0, 0)", x.row(5, 0, 0), BAD);
        due("2: row(0, -1, 0)", x.row(0, -1, 0), BAD);
        due("2: row(0, 10, 0)", x.row(0, 10, 0), BAD);
        due("2: row(0, 0, -1)", x.row(0, 0, -1), BAD);
        due("2: row(0, 0, 100)", x.row(0, 0, 100), BAD);
        due("2: count(0) after BAD", x.count(0), 1);
        due("2: row(4, 9, 99)", x.row(4, 9, 99), 1);
        due("2: at(4)", x.at(4), 1);
        due("2: at(0)", x.at(0), 0);
        due("2: row(4, 9, 99) again", x.row(4, 9, 99), NO);
        due("2: row(4, 10, 99)", x.row(4, 10, 99), BAD);
        due("2: count(2) after NO", x.count(2), 1);
        due("2: row(0, 0, 99) elsewhere", x.row(0, 0, 99), 2);
        due("2: its number", x.rowOf(2, 0, 0), 1);
        due("2: column(4, 3, 2)", x.column(4, 3, 2), 3);
        due("2: row(4, 3, 0)", x.row(4, 3, 0), 4);
        due("2: its cell is empty", x.has(4, 0, 0), 0);
        due("2: its cell is made", x.madeBy(4, 0, 0), 4);
        due("2: the other row's is not", x.madeBy(4, 99, 0), 3);
    }

    private static void rowFull() {
        TableHistories x = new TableHistories();
        for (int key = 0; key < 16; key++) {
            due("2: row " + key, x.row(0, 0, key), key + 1);
        }
        due("2: row(0, 0, 16)", x.row(0, 0, 16), FULL);
        due("2: NO ahead of FULL", x.row(0, 0, 15), NO);
        due("2: BAD ahead of FULL", x.row(0, 0, 100), BAD);
        due("2: count(2)", x.count(2), 16);
        due("2: gone(0, 0, 3)", x.gone(0, 0, 3), 17);
        due("2: row(0, 0, 3)", x.row(0, 0, 3), 18);
        due("2: a number is not used twice", x.rowOf(18, 15, 0), 16);
        due("2: by numbers", x.rowOf(18, 3, 0), 4);
    }

    private static void gone() {
        TableHistories x = small();
        due("3: row(0, 1, 6)", x.row(0, 1, 6), 3);
        due("3: cell(0, 1, 6, 0, 66)", x.cell(0, 1, 6, 0, 66), 4);
        due("3: gone(5, 0, 5)", x.gone(5, 0, 5), BAD);
        due("3: gone(-1, 0, 5)", x.gone(-1, 0, 5), BAD);
        due("3: gone(0, 10, 5)", x.gone(0, 10, 5), BAD);
        due("3: gone(0, -1, 5)", x.gone(0, -1, 5), BAD);
        due("3: gone(0, 0, 100)", x.gone(0, 0, 100), BAD);
        due("3: gone(0, 0, -1)", x.gone(0, 0, -1), BAD);
        due("3: gone(0, 0, 7)", x.gone(0, 0, 7), NO);
        due("3: gone(1, 0, 5), not there", x.gone(1, 0, 5), NO);
        due("3: gone(0, 7, 5)", x.gone(0, 7, 5), 5);
        due("3: rows", x.version(5, 4), 1);
        due("3: who", x.version(5, 0), 7);
        due("3: the one that is left", x.rowOf(5, 0, 0), 1);
        due("3: its cell", x.value(5, 6, 0), 66);
        due("3: its maker", x.madeBy(5, 6, 0), 4);
        due("3: has(5, 5, 0)", x.has(5, 5, 0), NO);
        due("3: the version before", x.has(4, 5, 0), 0);
        due("3: gone(0, 7, 5) again", x.gone(0, 7, 5), NO);
    }

    private static void cell() {
        TableHistories x = small();
        due("4: cell(5, ..)", x.cell(5, 1, 5, 0, 1), BAD);
        due("4: cell(-1, ..)", x.cell(-1, 1, 5, 0, 1), BAD);
        due("4: who 10", x.cell(0, 10, 5, 0, 1), BAD);
        due("4: who -1", x.cell(0, -1, 5, 0, 1), BAD);
        due("4: key 100", x.cell(0, 1, 100, 0, 1), BAD);
        due("4: key -1", x.cell(0, 1, -1, 0, 1), BAD);
        due("4: column 1 of none ever", x.cell(0, 1, 5, 1, 1), BAD);
        due("4: column -1", x.cell(0, 1, 5, -1, 1), BAD);
        due("4: BAD ahead of NO", x.cell(0, 1, 6, 1, 1), BAD);
        due("4: no row", x.cell(0, 1, 6, 0, 1), NO);
        due("4: NO ahead of the number", x.cell(0, 1, 6, 0, 99999), NO);
        due("4: no column on the branch", x.row(1, 1, 5), 3);
        due("4: no column on the branch", x.cell(1, 1, 5, 0, 1), NO);
        due("4: not of the kind", x.cell(0, 1, 5, 0, 32768), BAD);
        due("4: nothing changed", x.count(0), 4);
        due("4: cell", x.cell(0, 8, 5, 0, 32767), 4);
        due("4: value", x.value(4, 5, 0), 32767);
        due("4: has", x.has(4, 5, 0), 1);
        due("4: madeBy", x.madeBy(4, 5, 0), 4);
        due("4: who", x.version(4, 0), 8);
        due("4: parent", x.version(4, 1), 2);
        due("4: second parent", x.version(4, 2), NONE);
        due("4: the same again is made", x.cell(0, 8, 5, 0, 32767), 5);
        due("4: madeBy", x.madeBy(5, 5, 0), 5);
        due("4: the version before", x.madeBy(4, 5, 0), 4);
    }

    private static void cellKinds() {
        long[] greatest = {127L, 32767L, 2147483647L, Long.MAX_VALUE};
        TableHistories x = new TableHistories();
        due("4: row", x.row(0, 0, 0), 1);
        int last = 1;
        for (int kind = 0; kind < 4; kind++) {
            long most = greatest[kind];
            long least = -most - 1;
            due("4: column", x.column(0, 0, kind), ++last);
            due("4: greatest of kind " + kind, x.cell(0, 0, 0, kind, most), ++last);
            due("4: it", x.value(last, 0, kind), most);
            due("4: least of kind " + kind, x.cell(0, 0, 0, kind, least), ++last);
            due("4: it", x.value(last, 0, kind), least);
            if (kind < 3) {
                due("4: above kind " + kind, x.cell(0, 0, 0, kind, most + 1), BAD);
                due("4: below kind " + kind, x.cell(0, 0, 0, kind, least - 1), BAD);
                due("4: far above kind " + kind, x.cell(0, 0, 0, kind, Long.MAX_VALUE), BAD);
                due("4: far below kind " + kind, x.cell(0, 0, 0, kind, Long.MIN_VALUE), BAD);
            }
        }
    }

    private static void empty() {
        TableHistories x = small();
        due("5: cell", x.cell(0, 1, 5, 0, 7), 3);
        due("5: empty(5, ..)", x.empty(5, 1, 5, 0), BAD);
        due("5: who 10", x.empty(0, 10, 5, 0), BAD);
        due("5: key 100", x.empty(0, 1, 100, 0), BAD);
        due("5: key -1", x.empty(0, 1, -1, 0), BAD);
        due("5: column 1", x.empty(0, 1, 5, 1), BAD);
        due("5: column -1", x.empty(0, 1, 5, -1), BAD);
        due("5: no row", x.empty(0, 1, 6, 0), NO);
        due("5: no column there", x.empty(1, 1, 5, 0), NO);
        due("5: empty", x.empty(0, 2, 5, 0), 4);
        due("5: has", x.has(4, 5, 0), 0);
        due("5: value", x.value(4, 5, 0), 0);
        due("5: madeBy", x.madeBy(4, 5, 0), 4);
        due("5: made also if it was so", x.empty(0, 2, 5, 0), 5);
        due("5: madeBy", x.madeBy(5, 5, 0), 5);
        due("5: the version before", x.value(3, 5, 0), 7);
    }

    private static void column() {
        TableHistories x = new TableHistories();
        due("6: row", x.row(0, 0, 9), 1);
        due("6: column(5, 0, 0)", x.column(5, 0, 0), BAD);
        due("6: column(-1, 0, 0)", x.column(-1, 0, 0), BAD);
        due("6: column(0, 10, 0)", x.column(0, 10, 0), BAD);
        due("6: column(0, -1, 0)", x.column(0, -1, 0), BAD);
        due("6: column(0, 0, 4)", x.column(0, 0, 4), BAD);
        due("6: column(0, 0, -1)", x.column(0, 0, -1), BAD);
        for (int i = 0; i < 5; i++) {
            due("6: column " + i, x.column(0, 0, i % 4), 2 + i);
            due("6: columns ever", x.count(1), i + 1);
            due("6: number", x.columnOf(2 + i, i, 0), i);
            due("6: kind", x.columnOf(2 + i, i, 1), i % 4);
            due("6: rule", x.columnOf(2 + i, i, 2), 0);
            due("6: cell is empty", x.has(2 + i, 9, i), 0);
            due("6: cell is made", x.madeBy(2 + i, 9, i), 2 + i);
        }
        due("6: five columns", x.column(0, 0, 0), FULL);
        due("6: BAD ahead of FULL", x.column(0, 0, 4), BAD);
        due("6: columns ever after FULL", x.count(1), 5);
        due("6: on another branch", x.column(1, 0, 3), 7);
        due("6: its number", x.columnOf(7, 0, 0), 5);
        due("6: earlier cells are not made", x.madeBy(6, 9, 0), 2);
    }

    private static void drop() {
        TableHistories x = small();
        due("7: column", x.column(0, 0, 3), 3);
        due("7: cell", x.cell(0, 0, 5, 1, 44), 4);
        due("7: drop(5, 0, 0)", x.drop(5, 0, 0), BAD);
        due("7: drop(-1, 0, 0)", x.drop(-1, 0, 0), BAD);
        due("7: drop(0, 10, 0)", x.drop(0, 10, 0), BAD);
        due("7: drop(0, -1, 0)", x.drop(0, -1, 0), BAD);
        due("7: drop(0, 0, 2)", x.drop(0, 0, 2), BAD);
        due("7: drop(0, 0, -1)", x.drop(0, 0, -1), BAD);
        due("7: drop(1, 0, 0), not there", x.drop(1, 0, 0), NO);
        due("7: drop", x.drop(0, 6, 0), 5);
        due("7: who", x.version(5, 0), 6);
        due("7: columns", x.version(5, 3), 1);
        due("7: the one that is left", x.columnOf(5, 0, 0), 1);
        due("7: its kind", x.columnOf(5, 0, 1), 3);
        due("7: its cell", x.value(5, 5, 1), 44);
        due("7: its maker", x.madeBy(5, 5, 1), 4);
        due("7: has of the one that went", x.has(5, 5, 0), NO);
        due("7: the version before", x.has(4, 5, 0), 0);
        due("7: drop again", x.drop(0, 6, 0), NO);
        due("7: column", x.column(0, 0, 0), 6);
        due("7: a number is not used twice", x.columnOf(6, 1, 0), 2);
    }

    private static void retype() {
        TableHistories x = small();
        due("8: retype(5, ..)", x.retype(5, 0, 0, 0, 0), BAD);
        due("8: retype(-1, ..)", x.retype(-1, 0, 0, 0, 0), BAD);
        due("8: who 10", x.retype(0, 10, 0, 0, 0), BAD);
        due("8: who -1", x.retype(0, -1, 0, 0, 0), BAD);
        due("8: column 1", x.retype(0, 0, 1, 0, 0), BAD);
        due("8: column -1", x.retype(0, 0, -1, 0, 0), BAD);
        due("8: kind 4", x.retype(0, 0, 0, 4, 0), BAD);
        due("8: kind -1", x.retype(0, 0, 0, -1, 0), BAD);
        due("8: rule 3", x.retype(0, 0, 0, 0, 3), BAD);
        due("8: rule -1", x.retype(0, 0, 0, 0, -1), BAD);
        due("8: not there", x.retype(1, 0, 0, 0, 0), NO);
        due("8: BAD ahead of NO", x.retype(1, 0, 0, 0, 3), BAD);
        due("8: an empty cell can be", x.retype(0, 3, 0, 0, 0), 3);
        due("8: kind", x.columnOf(3, 0, 1), 0);
        due("8: rule", x.columnOf(3, 0, 2), 0);
        due("8: it is not made", x.madeBy(3, 5, 0), 2);
        due("8: the version before", x.columnOf(2, 0, 1), 1);
        due("8: the same kind, another rule", x.retype(0, 3, 0, 0, 2), 4);
        due("8: rule", x.columnOf(4, 0, 2), 2);
        due("8: the same kind and rule", x.retype(0, 3, 0, 0, 2), 5);
        due("8: who", x.version(5, 0), 3);
        due("8: numbers of the new kind", x.cell(0, 0, 5, 0, 128), BAD);
        due("8: empty stays empty", x.has(5, 5, 0), 0);
    }

    private static void retypeRules() {
        retyped(3, 300L, 0, 0, NO, 0);
        retyped(3, 300L, 0, 1, 4, 44);
        retyped(3, 300L, 0, 2, 4, 127);
        retyped(3, -300L, 0, 1, 4, -44);
        retyped(3, -300L, 0, 2, 4, -128);
        retyped(3, 128L, 0, 1, 4, -128);
        retyped(3, -129L, 0, 0, NO, 0);
        retyped(3, 40000L, 1, 1, 4, -25536);
        retyped(3, 40000L, 1, 2, 4, 32767);
        retyped(3, -40000L, 1, 2, 4, -32768);
        retyped(3, 4294967303L, 2, 1, 4, 7);
        retyped(3, 4294967303L, 2, 0, NO, 0);
        retyped(3, 4294967303L, 2, 2, 4, 2147483647L);
        retyped(3, Long.MIN_VALUE, 2, 2, 4, -2147483648L);
        retyped(3, Long.MAX_VALUE, 0, 1, 4, -1);
        retyped(3, 256L, 0, 1, 4, 0);
        unmoved(3, 127L, 0, 0);
        unmoved(3, -128L, 0, 1);
        unmoved(3, -128L, 0, 2);
        unmoved(0, -128L, 3, 1);
        unmoved(3, Long.MIN_VALUE, 3, 0);
        unmoved(3, Long.MIN_VALUE, 3, 1);
        unmoved(3, Long.MAX_VALUE, 3, 2);
        unmoved(2, -2147483648L, 3, 2);
    }

    private static void retyped(int from, long v, int to, int rule, int answer, long after) {
        TableHistories x = new TableHistories();
        x.column(0, 0, from);
        x.row(0, 0, 1);
        x.cell(0, 0, 1, 0, v);
        String name = "8: " + v + " to kind " + to + " by rule " + rule;
        due(name, x.retype(0, 0, 0, to, rule), answer);
        due(name + ", versions", x.count(0), answer < 0 ? 4 : 5);
        if (answer > 0) {
            due(name + ", number", x.value(4, 1, 0), after);
            due(name + ", maker", x.madeBy(4, 1, 0), after == v ? 3 : 4);
            due(name + ", has", x.has(4, 1, 0), 1);
            due(name + ", before", x.value(3, 1, 0), v);
        }
    }

    private static void unmoved(int from, long v, int to, int rule) {
        retyped(from, v, to, rule, 4, v);
    }

    private static void move() {
        TableHistories x = small();
        due("9: row", x.row(0, 0, 6), 3);
        due("9: move(5, ..)", x.move(5, 0, 5, 7), BAD);
        due("9: move(-1, ..)", x.move(-1, 0, 5, 7), BAD);
        due("9: who 10", x.move(0, 10, 5, 7), BAD);
        due("9: who -1", x.move(0, -1, 5, 7), BAD);
        due("9: key 100", x.move(0, 0, 100, 7), BAD);
        due("9: key -1", x.move(0, 0, -1, 7), BAD);
        due("9: to 100", x.move(0, 0, 5, 100), BAD);
        due("9: to -1", x.move(0, 0, 5, -1), BAD);
        due("9: none has it", x.move(0, 0, 8, 7), NO);
        due("9: one has the other", x.move(0, 0, 5, 6), NO);
        due("9: the same one", x.move(0, 0, 5, 5), NO);
        due("9: move", x.move(0, 4, 5, 99), 4);
        due("9: who", x.version(4, 0), 4);
        due("9: the row's number", x.rowOf(4, 0, 0), 0);
        due("9: its key", x.rowOf(4, 0, 1), 99);
        due("9: its cell is not made", x.madeBy(4, 99, 0), 2);
        due("9: the old key", x.has(4, 5, 0), NO);
        due("9: the version before", x.has(3, 5, 0), 0);
        due("9: the old key is free", x.move(0, 0, 6, 5), 5);
    }

    private static void branchAndAt() {
        TableHistories x = small();
        due("10: branch(5, 0)", x.branch(5, 0), BAD);
        due("10: branch(-1, 0)", x.branch(-1, 0), BAD);
        due("10: branch(0, 3)", x.branch(0, 3), BAD);
        due("10: branch(0, -1)", x.branch(0, -1), BAD);
        due("11: at(0)", x.at(0), 2);
        due("10: branch(4, 2)", x.branch(4, 2), 0);
        due("10: branch(4, 1)", x.branch(4, 1), 2);
        due("11: at(4)", x.at(4), 1);
        due("11: at(0)", x.at(0), 2);
        due("11: at(5)", x.at(5), BAD);
        due("11: at(-1)", x.at(-1), BAD);
        due("10: no version is made", x.count(0), 3);
        due("10: a change there", x.row(4, 0, 5), 3);
        due("10: its parent", x.version(3, 1), 1);
    }

    private static void merge() {
        TableHistories x = small();
        due("12: merge(5, 0, 0)", x.merge(5, 0, 0), BAD);
        due("12: merge(-1, 0, 0)", x.merge(-1, 0, 0), BAD);
        due("12: merge(0, 5, 0)", x.merge(0, 5, 0), BAD);
        due("12: merge(0, -1, 0)", x.merge(0, -1, 0), BAD);
        due("12: merge(0, 1, 10)", x.merge(0, 1, 10), BAD);
        due("12: merge(0, 1, -1)", x.merge(0, 1, -1), BAD);
        due("12: the base is the other's", x.merge(0, 1, 0), NONE);
        due("12: with itself", x.merge(0, 0, 0), NONE);
        due("12: the base is where the branch is", x.merge(1, 0, 6), 3);
        due("12: who", x.version(3, 0), 6);
        due("12: parent", x.version(3, 1), 0);
        due("12: second parent", x.version(3, 2), 2);
        due("12: the branch is there", x.at(1), 3);
        due("12: the other stays", x.at(0), 2);
        due("12: its cell, as it was made", x.madeBy(3, 5, 0), 2);
        due("12: then the other way", x.merge(0, 1, 6), 4);
        due("12: then nothing", x.merge(0, 1, 6), NONE);
    }

    private static void clash() {
        TableHistories x = small();
        due("13: before any", x.clash(0, 0), NONE);
        due("13: before any, far", x.clash(Integer.MAX_VALUE, 2), NONE);
        due("13: clash(-1, 0)", x.clash(-1, 0), BAD);
        due("13: clash(0, 3)", x.clash(0, 3), BAD);
        due("13: clash(0, -1)", x.clash(0, -1), BAD);
        x.branch(1, 2);
        due("13: cell", x.cell(0, 0, 5, 0, 1), 3);
        due("13: cell", x.cell(1, 0, 5, 0, 2), 4);
        due("13: merge", x.merge(0, 1, 0), NO);
        due("13: nothing is merged", x.count(0), 5);
        due("13: the branch stays", x.at(0), 3);
        due("13: sort", x.clash(0, 0), 6);
        due("13: row", x.clash(0, 1), 0);
        due("13: column", x.clash(0, 2), 0);
        due("13: behind the last", x.clash(1, 0), NONE);
        due("13: far behind", x.clash(Integer.MAX_VALUE, 0), NONE);
        due("13: clash(-1, 0)", x.clash(-1, 0), BAD);
        due("13: clash(1, 3)", x.clash(1, 3), BAD);
        due("13: a merge that is none", x.merge(0, 0, 0), NONE);
        due("13: a merge that is bad", x.merge(0, 7, 0), BAD);
        due("13: differences between", x.differences(0, 4), 2);
        due("13: a merge that goes", x.merge(2, 0, 0), 5);
        due("13: still the latest that was NO", x.clash(0, 0), 6);
        due("13: count(3)", x.count(3), 1);
        due("13: another that is NO", x.gone(1, 0, 5), 6);
        due("13: another that is NO", x.merge(0, 1, 0), NO);
        due("13: sort", x.clash(0, 0), 4);
        due("13: column of a row's clash", x.clash(0, 2), NONE);
    }

    private static void base() {
        TableHistories x = small();
        x.branch(1, 1);
        due("14: row(1, 0, 9)", x.row(1, 0, 9), 3);
        due("14: base(2, 3)", x.base(2, 3), 1);
        due("14: base(3, 2)", x.base(3, 2), 1);
        due("14: base(3, 3)", x.base(3, 3), 3);
        due("14: base(0, 3)", x.base(0, 3), 0);
        due("14: base(3, 1)", x.base(3, 1), 1);
        due("14: base(4, 0)", x.base(4, 0), BAD);
        due("14: base(0, 4)", x.base(0, 4), BAD);
        due("14: base(-1, 0)", x.base(-1, 0), BAD);
        due("14: base(0, -1)", x.base(0, -1), BAD);
        due("14: merge(0, 1, 0)", x.merge(0, 1, 0), 4);
        due("14: by the second parent", x.base(4, 3), 3);
        due("14: by the first parent", x.base(2, 4), 2);
        x.branch(2, 2);
        due("14: row(2, 0, 8)", x.row(2, 0, 8), 5);
        due("14: row(1, 0, 7)", x.row(1, 0, 7), 6);
        due("14: merge(2, 1, 0)", x.merge(2, 1, 0), 7);
        due("14: the greatest of 2 and 3", x.base(4, 7), 3);
        due("14: base(5, 6)", x.base(5, 6), 1);
    }

    private static void version() {
        TableHistories x = small();
        due("15: who", x.version(2, 0), 1);
        due("15: parent", x.version(2, 1), 1);
        due("15: second", x.version(2, 2), NONE);
        due("15: columns", x.version(2, 3), 1);
        due("15: rows", x.version(2, 4), 1);
        due("15: rows of 1", x.version(1, 4), 0);
        due("15: version(3, 0)", x.version(3, 0), BAD);
        due("15: version(-1, 0)", x.version(-1, 0), BAD);
        due("15: version(2, 5)", x.version(2, 5), BAD);
        due("15: version(2, -1)", x.version(2, -1), BAD);
        due("15: version(MAX, 0)", x.version(Integer.MAX_VALUE, 0), BAD);
    }

    private static void columnOf() {
        TableHistories x = small();
        x.column(0, 0, 3);
        x.retype(0, 0, 1, 2, 1);
        due("16: number", x.columnOf(4, 1, 0), 1);
        due("16: kind", x.columnOf(4, 1, 1), 2);
        due("16: rule", x.columnOf(4, 1, 2), 1);
        due("16: behind the last", x.columnOf(4, 2, 0), NONE);
        due("16: far behind", x.columnOf(4, Integer.MAX_VALUE, 2), NONE);
        due("16: columnOf(5, 0, 0)", x.columnOf(5, 0, 0), BAD);
        due("16: columnOf(-1, 0, 0)", x.columnOf(-1, 0, 0), BAD);
        due("16: columnOf(4, -1, 0)", x.columnOf(4, -1, 0), BAD);
        due("16: columnOf(4, 0, 3)", x.columnOf(4, 0, 3), BAD);
        due("16: columnOf(4, 0, -1)", x.columnOf(4, 0, -1), BAD);
        due("16: BAD ahead of NONE", x.columnOf(4, 9, 3), BAD);
    }

    private static void rowOf() {
        TableHistories x = small();
        x.row(0, 0, 3);
        due("17: number", x.rowOf(3, 1, 0), 1);
        due("17: key", x.rowOf(3, 1, 1), 3);
        due("17: by numbers, not keys", x.rowOf(3, 0, 1), 5);
        due("17: behind the last", x.rowOf(3, 2, 1), NONE);
        due("17: far behind", x.rowOf(3, Integer.MAX_VALUE, 0), NONE);
        due("17: rowOf(4, 0, 0)", x.rowOf(4, 0, 0), BAD);
        due("17: rowOf(-1, 0, 0)", x.rowOf(-1, 0, 0), BAD);
        due("17: rowOf(3, -1, 0)", x.rowOf(3, -1, 0), BAD);
        due("17: rowOf(3, 0, 2)", x.rowOf(3, 0, 2), BAD);
        due("17: rowOf(3, 0, -1)", x.rowOf(3, 0, -1), BAD);
        due("17: BAD ahead of NONE", x.rowOf(3, 9, 2), BAD);
    }

    private static void readingCells() {
        TableHistories x = small();
        x.cell(0, 0, 5, 0, -9);
        int[][] wrong = {{-1, 5, 0, BAD}, {4, 5, 0, BAD}, {3, -1, 0, BAD}, {3, 100, 0, BAD}, {3, 5, -1, BAD},
            {3, 5, 1, BAD}, {3, 6, 1, BAD}, {3, 6, 0, NO}, {1, 5, 0, NO}, {0, 5, 0, NO}};
        for (int[] one : wrong) {
            String name = "(" + one[0] + ", " + one[1] + ", " + one[2] + ")";
            due("18: has" + name, x.has(one[0], one[1], one[2]), one[3]);
            due("19: value" + name, x.value(one[0], one[1], one[2]), 0);
            due("20: madeBy" + name, x.madeBy(one[0], one[1], one[2]), one[3]);
        }
        due("18: has", x.has(3, 5, 0), 1);
        due("19: value", x.value(3, 5, 0), -9);
        due("20: madeBy", x.madeBy(3, 5, 0), 3);
        due("18: empty", x.has(2, 5, 0), 0);
        due("19: empty", x.value(2, 5, 0), 0);
        due("20: empty", x.madeBy(2, 5, 0), 2);
        x.cell(0, 0, 5, 0, 0);
        due("18: the number 0 is one", x.has(4, 5, 0), 1);
        due("19: the number 0", x.value(4, 5, 0), 0);
    }

    private static void differences() {
        TableHistories x = small();
        due("21: (0, 0)", x.differences(0, 0), 0);
        due("21: (3, 0)", x.differences(3, 0), BAD);
        due("21: (0, 3)", x.differences(0, 3), BAD);
        due("21: (-1, 0)", x.differences(-1, 0), BAD);
        due("21: (0, -1)", x.differences(0, -1), BAD);
        due("22: (3, 0, 0, 0)", x.difference(3, 0, 0, 0), BAD);
        due("22: (0, 3, 0, 0)", x.difference(0, 3, 0, 0), BAD);
        due("22: (-1, 0, 0, 0)", x.difference(-1, 0, 0, 0), BAD);
        due("22: (0, -1, 0, 0)", x.difference(0, -1, 0, 0), BAD);
        due("22: (0, 0, -1, 0)", x.difference(0, 0, -1, 0), BAD);
        due("22: (0, 0, 0, 3)", x.difference(0, 0, 0, 3), BAD);
        due("22: (0, 0, 0, -1)", x.difference(0, 0, 0, -1), BAD);
        due("22: (0, 0, 0, 0)", x.difference(0, 0, 0, 0), NONE);
        due("21: to 2", x.differences(0, 2), 2);
        tells(x, 0, 2, 0, 2, NONE, 0);
        tells(x, 0, 2, 1, 5, 0, NONE);
        due("21: back", x.differences(2, 0), 2);
        tells(x, 2, 0, 0, 1, NONE, 0);
        tells(x, 2, 0, 1, 4, 0, NONE);
        due("22: behind the last", x.difference(2, 0, 2, 0), NONE);
        due("22: far behind", x.difference(2, 0, Integer.MAX_VALUE, 1), NONE);
        x.cell(0, 0, 5, 0, 0);
        due("21: empty and 0 are unlike", x.differences(2, 3), 1);
        tells(x, 2, 3, 0, 7, 0, 0);
        x.cell(0, 0, 5, 0, 0);
        due("21: who made it is none", x.differences(3, 4), 0);
        x.retype(0, 0, 0, 3, 0);
        due("21: a kind, the number stays", x.differences(4, 5), 1);
        tells(x, 4, 5, 0, 3, NONE, 0);
        x.retype(0, 0, 0, 3, 2);
        due("21: a rule", x.differences(5, 6), 1);
        tells(x, 5, 6, 0, 3, NONE, 0);
        x.move(0, 0, 5, 6);
        due("21: a key", x.differences(6, 7), 1);
        tells(x, 6, 7, 0, 6, 0, NONE);
    }

    private static void tells(TableHistories x, int from, int to, int i, int sort, int row, int column) {
        String name = "22: " + from + " to " + to + ", " + i;
        due(name + " sort", x.difference(from, to, i, 0), sort);
        due(name + " row", x.difference(from, to, i, 1), row);
        due(name + " column", x.difference(from, to, i, 2), column);
    }

    private static void differenceOrder() {
        TableHistories x = new TableHistories();
        for (int i = 0; i < 4; i++) {
            x.column(0, 0, 2);
            x.row(0, 0, 40 - i);
        }
        x.cell(0, 0, 38, 2, 300);
        int from = x.at(0);
        x.drop(0, 0, 0);
        x.column(0, 0, 0);
        x.retype(0, 0, 2, 0, 1);
        x.retype(0, 0, 1, 1, 0);
        x.gone(0, 0, 40);
        x.row(0, 0, 1);
        x.move(0, 0, 37, 90);
        x.move(0, 0, 38, 80);
        x.cell(0, 0, 90, 1, 1);
        x.cell(0, 0, 39, 3, 1);
        x.cell(0, 0, 39, 1, 1);
        x.cell(0, 0, 1, 3, 5);
        x.cell(0, 0, 39, 4, 5);
        int to = x.at(0);
        int[][] all = {{1, NONE, 0}, {2, NONE, 4}, {3, NONE, 1}, {3, NONE, 2}, {4, 0, NONE}, {5, 4, NONE},
            {6, 2, NONE}, {6, 3, NONE}, {7, 1, 1}, {7, 1, 3}, {7, 2, 2}, {7, 3, 1}};
        due("21: in order", x.differences(from, to), all.length);
        for (int i = 0; i < all.length; i++) {
            tells(x, from, to, i, all[i][0], all[i][1], all[i][2]);
        }
        due("22: behind", x.difference(from, to, all.length, 0), NONE);
        int[][] back = {{1, NONE, 4}, {2, NONE, 0}, {3, NONE, 1}, {3, NONE, 2}, {4, 4, NONE}, {5, 0, NONE}};
        for (int i = 0; i < back.length; i++) {
            tells(x, to, from, i, back[i][0], back[i][1], back[i][2]);
        }
    }

    private static void manyDifferences() {
        TableHistories x = new TableHistories();
        for (int branch = 0; branch < 2; branch++) {
            for (int i = 0; i < 5; i++) {
                x.column(branch, 0, 0);
            }
            for (int key = 0; key < 16; key++) {
                x.row(branch, 0, key);
            }
        }
        due("21: nothing in common", x.differences(x.at(0), x.at(1)), 42);
        tells(x, x.at(0), x.at(1), 4, 1, NONE, 4);
        tells(x, x.at(0), x.at(1), 9, 2, NONE, 9);
        tells(x, x.at(0), x.at(1), 25, 4, 15, NONE);
        tells(x, x.at(0), x.at(1), 41, 5, 31, NONE);
        int before = x.at(0);
        for (int key = 0; key < 16; key++) {
            for (int column = 0; column < 5; column++) {
                x.cell(0, 0, key, column, 1);
            }
        }
        due("21: all cells", x.differences(before, x.at(0)), 80);
        tells(x, before, x.at(0), 79, 7, 15, 4);
        tells(x, before, x.at(0), 7, 7, 1, 2);
    }

    private static void count() {
        TableHistories x = small();
        x.row(0, 0, 6);
        due("23: versions", x.count(0), 4);
        due("23: columns", x.count(1), 1);
        due("23: rows", x.count(2), 2);
        due("23: clashes", x.count(3), 0);
        due("23: count(4)", x.count(4), BAD);
        due("23: count(-1)", x.count(-1), BAD);
        x.gone(0, 0, 6);
        x.drop(0, 0, 0);
        due("23: columns ever", x.count(1), 1);
        due("23: rows ever", x.count(2), 2);
    }

    private static void fullOfVersions() {
        TableHistories x = small();
        x.branch(1, 2);
        x.branch(2, 1);
        x.cell(1, 0, 5, 0, 9);
        for (int v = 4; v < 150; v++) {
            due("2: version " + v, x.cell(0, 0, 5, 0, v), v);
        }
        due("23: versions", x.count(0), 150);
        due("2: row", x.row(0, 0, 6), FULL);
        due("3: gone", x.gone(0, 0, 5), FULL);
        due("4: cell", x.cell(0, 0, 5, 0, 1), FULL);
        due("5: empty", x.empty(0, 0, 5, 0), FULL);
        due("6: column", x.column(0, 0, 0), FULL);
        due("7: drop", x.drop(0, 0, 0), FULL);
        due("8: retype", x.retype(0, 0, 0, 3, 0), FULL);
        due("9: move", x.move(0, 0, 5, 6), FULL);
        due("12: merge, ahead of its clashes", x.merge(0, 1, 0), FULL);
        due("12: merge, the base is the other's", x.merge(0, 2, 0), NONE);
        due("12: merge, BAD", x.merge(0, 5, 0), BAD);
        due("2: BAD ahead", x.row(0, 0, 100), BAD);
        due("2: NO ahead", x.row(0, 0, 5), NO);
        due("3: NO ahead", x.gone(0, 0, 6), NO);
        due("4: NO ahead", x.cell(0, 0, 6, 0, 1), NO);
        due("4: BAD ahead", x.cell(0, 0, 5, 1, 1), BAD);
        due("4: BAD of the number ahead", x.cell(0, 0, 5, 0, 32768), BAD);
        due("4: BAD of the number ahead", x.cell(0, 0, 5, 0, -32769), BAD);
        due("4: the greatest number", x.cell(0, 0, 5, 0, 32767), FULL);
        due("4: NO ahead of the number", x.cell(0, 0, 6, 0, 32768), NO);
        due("5: NO ahead", x.empty(0, 0, 6, 0), NO);
        due("6: BAD ahead", x.column(0, 0, 4), BAD);
        due("7: NO ahead", x.drop(3, 0, 0), NO);
        due("8: NO ahead", x.retype(0, 0, 0, 0, 0), NO);
        due("9: NO ahead", x.move(0, 0, 5, 5), NO);
        due("23: versions", x.count(0), 150);
        due("23: columns", x.count(1), 1);
        due("23: rows", x.count(2), 1);
        due("11: at", x.at(0), 149);
        due("10: branch", x.branch(0, 3), 149);
        due("19: value", x.value(149, 5, 0), 149);
        due("13: no clashes were told", x.clash(0, 0), NONE);
    }
}
