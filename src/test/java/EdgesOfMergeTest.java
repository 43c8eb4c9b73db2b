/** Each sentence of the document's third part that names a boundary case: what a merge takes from where. */
public final class EdgesOfMergeTest {
    private static final int NO = -2, NONE = -4;
    private static final Due DUE = new Due();
    private static final Parted.Step[] NOTHING = {};

    public static void main(String[] args) {
        greatestOfSeveral();
        baseIsTheOther();
        baseIsWhereTheBranchIs();
        baseOfEmptyTable();
        emptyTables();
        widestAndLongest();
        placesInTheBase();
        columnsOfTheResult();
        rowsOfTheResult();
        kindChangedInOne();
        ruleChangedInOne();
        kindChangedInNone();
        kindChangedInBothAlike();
        kindChangedAndBack();
        keyChangedInOne();
        keyChangedInBothAlike();
        keyChangedAndBack();
        cellChangedInOne();
        cellMadeButNotChanged();
        cellEmptyInBase();
        cellChangedInBothAlike();
        convertedAsItIs();
        convertedByCutting();
        convertedByKeeping();
        convertedOfOwn();
        convertedToTheBase();
        changedAfterConverting();
        againstTheBaseThatCanNotBe();
        convertedWhereRuleAlone();
        newRow();
        newColumn();
        newRowAndNewColumn();
        newInBoth();
        newRowConverted();
        inOneAlone();
        whoAndParents();
        DUE.end();
    }

    private static Parted.Step step(String name, long... numbers) {
        return new Parted.Step(name, numbers);
    }

    private static Parted.Step[] steps(Parted.Step... all) {
        return all;
    }

    /** The changes of one on BRANCH 0 (from VERSION 7 on), then those of the other on BRANCH 1. */
    private static Calls parted(String sentence, Parted.Step[] one, Parted.Step[] other) {
        return Parted.calls(DUE, sentence, one, other);
    }

    // ---- the BASE

    private static void greatestOfSeveral() {
        Calls x = parted("their BASE is the greatest VERSION that is AHEAD of both",
            steps(step("cell", 11, 0, 1)), steps(step("cell", 12, 0, 2)));
        x.is(6, "base", 7, 8);
        x.is(6, "branch", 2, 7);
        x.is(6, "branch", 3, 8);
        x.is(9, "merge", 0, 1, 0);
        x.is(10, "merge", 3, 2, 0);
        x.is(8, "base", 9, 10);
        x.is(11, "cell", 0, 0, 12, 0, 5);
        int v = x.makes("merge", 3, 0, 0);
        x.numberIs(5, 11, v, 12, 0);
        x.numberIs(1, 7, v, 11, 0);
    }

    private static void baseIsTheOther() {
        Calls x = parted("If it is b, nothing is to be merged", steps(step("cell", 11, 0, 1)), NOTHING);
        x.refused(NONE, "merge", 0, 1, 0);
        x.refused(NONE, "merge", 0, 0, 0);
        x.is(6, "branch", 1, 0);
        x.refused(NONE, "merge", 0, 1, 0);
        x.is(0, "branch", 1, 7);
        x.refused(NONE, "merge", 0, 1, 0);
        x.refused(NONE, "merge", 1, 0, 0);
    }

    /** The result is as b; but what was MADE anew, and not CHANGED, is that of a. */
    private static void baseIsWhereTheBranchIs() {
        Calls x = parted("If the BASE is where the BRANCH is, too", NOTHING,
            steps(step("cell", 10, 0, 500), step("empty", 11, 0), step("cell", 12, 0, 3), step("gone", 11),
                step("drop", 1), step("row", 60), step("column", 0), step("move", 12, 62)));
        int v = x.makes("merge", 0, 1, 4);
        x.is(6, "version", v, 1);
        x.is(14, "version", v, 2);
        x.differencesAre(14, v);
        x.numberIs(500, 6, v, 10, 0);
        x.numberIs(500, 7, 14, 10, 0);
        x.numberIs(3, 9, v, 62, 0);
        x.emptyIs(12, v, 60, 0);
        x.emptyIs(13, v, 60, 2);
        x.emptyIs(13, v, 10, 2);
    }

    private static void baseOfEmptyTable() {
        Calls x = new Calls(DUE, "the BASE is VERSION 0, an empty TABLE");
        x.is(1, "row", 0, 0, 1);
        x.is(2, "column", 1, 0, 3);
        x.is(0, "base", 1, 2);
        int v = x.makes("merge", 0, 1, 0);
        x.rowsAre(v, 0);
        x.columnsAre(v, 0);
        x.emptyIs(v, v, 1, 0);
    }

    /** Behind a merge of TABLES with ROWS and COLUMNS, so that nothing of it is left over. */
    private static void emptyTables() {
        Calls x = parted("TABLES without ROWS, without COLUMNS", steps(step("cell", 11, 0, 1)),
            steps(step("cell", 12, 0, 2)));
        x.makes("merge", 0, 1, 0);
        x.is(6, "branch", 2, 1);
        x.is(6, "branch", 3, 1);
        x.makes("column", 2, 0, 0);
        x.makes("column", 3, 0, 0);
        int v = x.makes("merge", 2, 3, 0);
        x.rowsAre(v);
        x.columnsAre(v, 0, 2, 3);
        x.is(v, "branch", 2, 0);
        x.is(v - 1, "branch", 3, 0);
        x.makes("row", 2, 0, 5);
        x.makes("row", 3, 0, 6);
        v = x.makes("merge", 2, 3, 0);
        x.rowsAre(v, 3, 4);
        x.columnsAre(v);
        Calls y = new Calls(DUE, "TABLES without anything");
        y.makes("row", 0, 0, 5);
        y.makes("gone", 0, 0, 5);
        y.makes("column", 1, 0, 0);
        y.makes("drop", 1, 0, 0);
        v = y.makes("merge", 0, 1, 0);
        y.rowsAre(v);
        y.columnsAre(v);
    }

    private static void widestAndLongest() {
        Calls x = new Calls(DUE, "one ROW with 5 COLUMNS");
        for (int column = 0; column < 5; column++) {
            x.makes("column", 0, 0, 0);
        }
        x.is(6, "row", 0, 0, 0);
        x.is(0, "branch", 1, 6);
        for (int column = 0; column < 5; column++) {
            x.is(7 + column, "cell", column % 2, 0, 0, column, 100 + column);
        }
        int v = x.makes("merge", 0, 1, 0);
        for (int column = 0; column < 5; column++) {
            x.numberIs(100 + column, 7 + column, v, 0, column);
        }
        Calls y = new Calls(DUE, "16 ROWS with one COLUMN");
        y.makes("column", 0, 0, 0);
        for (int key = 0; key < 16; key++) {
            y.makes("row", 0, 0, key);
        }
        y.is(0, "branch", 1, 17);
        for (int key = 0; key < 16; key++) {
            y.is(18 + key, "cell", key % 2, 0, key, 0, 100 + key);
        }
        v = y.makes("merge", 0, 1, 0);
        for (int key = 0; key < 16; key++) {
            y.numberIs(100 + key, 18 + key, v, key, 0);
        }
    }

    /** What went in both leaves the rest at other places than in the BASE: ROW 0, or COLUMN 0, or both. */
    private static void placesInTheBase() {
        for (int into = 0; into < 2; into++) {
            goneInBoth(into, true, true);
            goneInBoth(into, true, false);
            goneInBoth(into, false, true);
        }
        Parted.merged(DUE, "a ROW's KEY, with a COLUMN gone in one", steps(step("move", 10, 50), step("drop", 0)),
            steps(step("move", 11, 51)), (x, v) -> {
                x.is(50, "rowOf", v, 0, 1);
                x.is(51, "rowOf", v, 1, 1);
            });
    }

    private static void goneInBoth(int into, boolean row, boolean column) {
        Calls x = Parted.start(DUE, "CHANGED, if it is unlike that in the BASE");
        for (int key = 10; key < 13; key++) {
            x.makes("cell", 0, 0, key, 1, key);
        }
        int base = x.makes("column", 0, 0, 3);
        x.is(6, "branch", 1, base);
        for (int branch = 0; branch < 2; branch++) {
            if (row) {
                x.makes("gone", branch, 0, 10);
            }
            if (column) {
                x.makes("drop", branch, 0, 0);
            }
        }
        int one = x.makes("cell", 0, 0, 12, 1, 99);
        int other = x.makes("cell", 1, 0, 11, 2, 98);
        int v = x.makes("merge", into, 1 - into, 0);
        x.is(row ? 2 : 3, "version", v, 4);
        x.is(column ? 2 : 3, "version", v, 3);
        x.numberIs(99, one, v, 12, 1);
        x.numberIs(98, other, v, 11, 2);
        x.numberIs(11, 8, v, 11, 1);
        x.emptyIs(base, v, 12, 2);
    }

    // ---- the RESULT

    private static void columnsOfTheResult() {
        String sentence = "The RESULT has each COLUMN that is in a and b, or NEW in one";
        Calls x = parted(sentence, steps(step("column", 0)), steps(step("column", 3)));
        int v = x.makes("merge", 0, 1, 0);
        x.columnsAre(v, 0, 1, 2, 3);
        x.is(0, "columnOf", v, 2, 1);
        x.is(3, "columnOf", v, 3, 1);
        x = parted(sentence + ": the lesser one in b", NOTHING, steps(step("column", 0)));
        x.makes("column", 0, 0, 3);
        x.columnsAre(x.makes("merge", 0, 1, 0), 0, 1, 2, 3);
        Parted.merged(DUE, sentence + ": gone in one", steps(step("drop", 0)), steps(step("cell", 10, 1, 5)),
            (y, made) -> y.columnsAre(made, 1));
        Parted.merged(DUE, sentence + ": gone in both", steps(step("drop", 0)), steps(step("drop", 0)),
            (y, made) -> y.columnsAre(made, 1));
        Parted.merged(DUE, sentence + ": each goes in one", steps(step("drop", 0)), steps(step("drop", 1)),
            (y, made) -> y.columnsAre(made));
        Parted.merged(DUE, sentence + ": came and went", steps(step("column", 0), step("drop", 2)),
            steps(step("cell", 10, 1, 5)), (y, made) -> y.columnsAre(made, 0, 1));
    }

    private static void rowsOfTheResult() {
        String sentence = "The RESULT has each ROW likewise";
        Calls x = parted(sentence, steps(step("row", 60)), steps(step("row", 50)));
        int v = x.makes("merge", 0, 1, 0);
        x.rowsAre(v, 0, 1, 2, 3, 4);
        x.is(60, "rowOf", v, 3, 1);
        x.is(50, "rowOf", v, 4, 1);
        x = parted(sentence + ": the lesser one in b", NOTHING, steps(step("row", 60)));
        x.makes("row", 0, 0, 50);
        x.rowsAre(x.makes("merge", 0, 1, 0), 0, 1, 2, 3, 4);
        Parted.merged(DUE, sentence + ": gone in one", steps(step("gone", 11)), steps(step("cell", 10, 1, 5)),
            (y, made) -> y.rowsAre(made, 0, 2));
        Parted.merged(DUE, sentence + ": gone in both", steps(step("gone", 11)), steps(step("gone", 11)),
            (y, made) -> y.rowsAre(made, 0, 2));
        Parted.merged(DUE, sentence + ": all go", steps(step("gone", 10), step("gone", 11)), steps(step("gone", 12)),
            (y, made) -> y.rowsAre(made));
        Parted.merged(DUE, sentence + ": came and went", steps(step("row", 60), step("gone", 60)),
            steps(step("cell", 10, 1, 5)), (y, made) -> y.rowsAre(made, 0, 1, 2));
        Parted.merged(DUE, sentence + ": went and came, with another NUMBER", steps(step("gone", 11), step("row", 11)),
            steps(step("cell", 10, 1, 5)), (y, made) -> y.rowsAre(made, 0, 2, 3));
    }

    // ---- KIND, RULE, KEY

    private static void kindIs(Calls x, int v, int kind, int rule) {
        x.is(kind, "columnOf", v, 0, 1);
        x.is(rule, "columnOf", v, 0, 2);
    }

    private static void kindChangedInOne() {
        for (int rule = 0; rule < 3; rule++) {
            int by = rule;
            Parted.merged(DUE, "A COLUMN's KIND and RULE are those of the one in which they are CHANGED",
                steps(step("retype", 0, 3, by)), steps(step("cell", 11, 1, 5)), (x, v) -> kindIs(x, v, 3, by));
        }
    }

    private static void ruleChangedInOne() {
        Parted.merged(DUE, "RULE alone is CHANGED in one", steps(step("retype", 0, 1, 2)),
            steps(step("cell", 11, 1, 5)), (x, v) -> kindIs(x, v, 1, 2));
    }

    private static void kindChangedInNone() {
        Parted.merged(DUE, "KIND and RULE, else of a", steps(step("cell", 10, 1, 5)), steps(step("cell", 11, 1, 5)),
            (x, v) -> kindIs(x, v, 1, 0));
    }

    private static void kindChangedInBothAlike() {
        Parted.merged(DUE, "KIND and RULE are CHANGED in both, alike", steps(step("retype", 0, 0, 2)),
            steps(step("retype", 0, 0, 2)), (x, v) -> kindIs(x, v, 0, 2));
    }

    private static void kindChangedAndBack() {
        Parted.merged(DUE, "KIND that is as in the BASE again is not CHANGED",
            steps(step("retype", 0, 3, 1), step("retype", 0, 1, 0)), steps(step("retype", 0, 2, 2)),
            (x, v) -> kindIs(x, v, 2, 2));
    }

    private static void keyChangedInOne() {
        Parted.merged(DUE, "a ROW's KEY likewise", steps(step("move", 11, 0)), steps(step("move", 12, 99)),
            (x, v) -> {
                x.is(10, "rowOf", v, 0, 1);
                x.is(0, "rowOf", v, 1, 1);
                x.is(99, "rowOf", v, 2, 1);
            });
    }

    private static void keyChangedInBothAlike() {
        Parted.merged(DUE, "KEY CHANGED in both, alike", steps(step("move", 11, 99)), steps(step("move", 11, 99)),
            (x, v) -> x.is(99, "rowOf", v, 1, 1));
    }

    private static void keyChangedAndBack() {
        Parted.merged(DUE, "KEY that is as in the BASE again is not CHANGED",
            steps(step("move", 11, 50), step("move", 50, 11)), steps(step("move", 11, 99)),
            (x, v) -> x.is(99, "rowOf", v, 1, 1));
    }

    // ---- CELLS whose ROW and COLUMN are in both

    private static void cellChangedInOne() {
        String sentence = "that of b, if it is CHANGED in b (as EMPTY, or as a number) and not in a; else that of a";
        Parted.merged(DUE, sentence, steps(step("cell", 10, 0, 7)), steps(step("cell", 11, 1, 8)), (x, v) -> {
            x.numberIs(7, 7, v, 10, 0);
            x.numberIs(8, 8, v, 11, 1);
            x.emptyIs(5, v, 12, 0);
        });
        Calls x = parted(sentence, steps(step("empty", 10, 0)), NOTHING);
        x.makes("cell", 1, 0, 12, 1, 9);
        x.is(9, "merge", 0, 1, 0);
        x.emptyIs(7, 9, 10, 0);
        x.numberIs(9, 8, 9, 12, 1);
        x.is(10, "merge", 1, 0, 0);
        x.emptyIs(7, 10, 10, 0);
        Calls y = parted(sentence, NOTHING, steps(step("empty", 10, 0), step("cell", 11, 0, 0)));
        y.makes("cell", 0, 0, 12, 1, 9);
        y.is(10, "merge", 0, 1, 0);
        y.emptyIs(7, 10, 10, 0);
        y.numberIs(0, 8, 10, 11, 0);
        y.numberIs(9, 9, 10, 12, 1);
    }

    private static void cellMadeButNotChanged() {
        String sentence = "MADE anew, and not CHANGED";
        Calls x = parted(sentence, NOTHING, steps(step("cell", 10, 0, 500), step("empty", 11, 0)));
        x.makes("cell", 0, 0, 12, 0, 1);
        int v = x.makes("merge", 0, 1, 0);
        x.numberIs(500, 6, v, 10, 0);
        x.emptyIs(4, v, 11, 0);
        Calls y = parted(sentence + " in a", steps(step("cell", 10, 0, 500), step("empty", 11, 0)),
            steps(step("cell", 12, 0, 1)));
        v = y.makes("merge", 0, 1, 0);
        y.numberIs(500, 7, v, 10, 0);
        y.emptyIs(8, v, 11, 0);
        Calls z = parted(sentence + " in a, CHANGED in b", steps(step("cell", 10, 0, 500), step("empty", 11, 0)),
            steps(step("cell", 10, 0, 7), step("cell", 11, 0, 7)));
        v = z.makes("merge", 0, 1, 0);
        z.numberIs(7, 9, v, 10, 0);
        z.numberIs(7, 10, v, 11, 0);
        Calls w = parted(sentence + " in both", steps(step("cell", 10, 0, 500)), steps(step("cell", 10, 0, 500)));
        w.numberIs(500, 7, w.makes("merge", 0, 1, 0), 10, 0);
        w = parted(sentence + " in both", steps(step("cell", 10, 0, 500)), steps(step("cell", 10, 0, 500)));
        w.numberIs(500, 8, w.makes("merge", 1, 0, 0), 10, 0);
        Calls u = parted("CHANGED, and back again", steps(step("cell", 10, 0, 7), step("cell", 10, 0, 500)),
            steps(step("cell", 10, 0, 8)));
        u.numberIs(8, 9, u.makes("merge", 0, 1, 0), 10, 0);
    }

    private static void cellEmptyInBase() {
        Calls x = parted("EMPTY in the BASE, the number 0 in one", steps(step("cell", 11, 0, 0)),
            steps(step("cell", 12, 1, 1)));
        x.numberIs(0, 7, x.makes("merge", 0, 1, 0), 11, 0);
        x.numberIs(0, 7, x.makes("merge", 1, 0, 0), 11, 0);
    }

    private static void cellChangedInBothAlike() {
        String sentence = "A CELL that is CHANGED in both, alike: MADE by the lesser one of the two";
        for (int into = 0; into < 2; into++) {
            Calls x = parted(sentence, steps(step("cell", 10, 0, 7), step("cell", 11, 0, 0)),
                steps(step("cell", 10, 0, 7), step("cell", 11, 0, 0)));
            int v = x.makes("merge", into, 1 - into, 0);
            x.numberIs(7, 7, v, 10, 0);
            x.numberIs(0, 8, v, 11, 0);
            Calls y = parted(sentence + ", EMPTY", steps(step("empty", 10, 0)), steps(step("empty", 10, 0)));
            y.emptyIs(7, y.makes("merge", into, 1 - into, 0), 10, 0);
        }
        Calls z = parted(sentence + ": not the lesser of a and b",
            steps(step("cell", 11, 1, 1), step("cell", 10, 0, 7)), NOTHING);
        z.is(9, "cell", 1, 0, 10, 0, 7);
        z.is(10, "cell", 0, 0, 12, 1, 1);
        z.numberIs(7, 8, z.makes("merge", 0, 1, 0), 10, 0);
    }

    // ---- CONVERTED

    private static long greatest(int kind) {
        return Long.MAX_VALUE >> (64 - (8 << kind));
    }

    private static long least(int kind) {
        return -greatest(kind) - 1;
    }

    /** In one the COLUMN, of 64 bits, is retyped, in the other a CELL, EMPTY in the BASE, becomes v; merged both ways. */
    private static void converted(String rule, long v, int to, int by, Long after) {
        for (int into = 0; into < 2; into++) {
            Calls x = new Calls(DUE, rule + ": " + v + " to KIND " + to + ", merged into " + into);
            x.makes("column", 0, 0, 3);
            x.is(2, "row", 0, 0, 5);
            x.is(0, "branch", 1, 2);
            x.is(3, "retype", 0, 0, 0, to, by);
            x.is(4, "cell", 1, 0, 5, 0, v);
            if (after == null) {
                x.clashes(into, 1 - into, new int[] {3, 0, 0});
            } else {
                x.is(5, "merge", into, 1 - into, 0);
                x.numberIs(after, 4, 5, 5, 0);
                kindIs(x, 5, to, by);
            }
        }
    }

    private static void convertedAsItIs() {
        String rule = "CELLS of the one in which it is not are CONVERTED, RULE 0";
        for (int to = 0; to < 3; to++) {
            converted(rule, least(to), to, 0, least(to));
            converted(rule, greatest(to), to, 0, greatest(to));
            converted(rule, least(to) - 1, to, 0, null);
            converted(rule, greatest(to) + 1, to, 0, null);
            converted(rule, Long.MIN_VALUE, to, 0, null);
            converted(rule, Long.MAX_VALUE, to, 0, null);
        }
    }

    private static void convertedByCutting() {
        String rule = "CELLS of the one in which it is not are CONVERTED, RULE 1";
        for (int to = 0; to < 3; to++) {
            converted(rule, least(to), to, 1, least(to));
            converted(rule, greatest(to), to, 1, greatest(to));
            converted(rule, least(to) - 1, to, 1, greatest(to));
            converted(rule, greatest(to) + 1, to, 1, least(to));
            converted(rule, Long.MIN_VALUE, to, 1, 0L);
            converted(rule, Long.MAX_VALUE, to, 1, -1L);
        }
    }

    private static void convertedByKeeping() {
        String rule = "CELLS of the one in which it is not are CONVERTED, RULE 2";
        for (int to = 0; to < 3; to++) {
            converted(rule, least(to), to, 2, least(to));
            converted(rule, greatest(to), to, 2, greatest(to));
            converted(rule, least(to) - 1, to, 2, least(to));
            converted(rule, greatest(to) + 1, to, 2, greatest(to));
            converted(rule, Long.MIN_VALUE, to, 2, least(to));
            converted(rule, Long.MAX_VALUE, to, 2, greatest(to));
        }
    }

    /** What a has not touched is CONVERTED too: it comes as it is then, MADE as it was, not by b's RETYPE. */
    private static void convertedOfOwn() {
        String sentence = "What was CONVERTED to another number comes as it is then, MADE as it was";
        Calls x = parted(sentence, steps(step("cell", 11, 1, 5)), steps(step("retype", 0, 0, 2)));
        int v = x.makes("merge", 0, 1, 0);
        x.numberIs(127, 6, v, 10, 0);
        x.numberIs(127, 8, 8, 10, 0);
        Calls y = parted(sentence + ": in a it is that of a", steps(step("cell", 11, 1, 5)),
            steps(step("retype", 0, 0, 2)));
        y.numberIs(127, 8, y.makes("merge", 1, 0, 0), 10, 0);
    }

    /** 300 and the BASE's 500 are both KEPT as 127: the CELL is not CHANGED where it is 300. */
    private static void convertedToTheBase() {
        String sentence = "CELLS and those of the BASE are first CONVERTED, to see whether they are CHANGED";
        Calls x = parted(sentence, steps(step("retype", 0, 0, 2)), steps(step("cell", 10, 0, 300)));
        x.numberIs(127, 7, x.makes("merge", 0, 1, 0), 10, 0);
        Calls y = parted(sentence + ", of a", steps(step("retype", 0, 0, 2)), steps(step("cell", 10, 0, 300)));
        y.numberIs(127, 8, y.makes("merge", 1, 0, 0), 10, 0);
        Calls z = parted(sentence + ", b CHANGED", steps(step("cell", 10, 0, 300)),
            steps(step("retype", 0, 0, 2), step("cell", 10, 0, 126)));
        z.numberIs(126, 9, z.makes("merge", 0, 1, 0), 10, 0);
        Calls w = parted(sentence + ", CUT", steps(step("retype", 0, 0, 1), step("cell", 10, 0, 1)),
            steps(step("cell", 10, 0, 500 + 256)));
        w.numberIs(1, 8, w.makes("merge", 0, 1, 0), 10, 0);
    }

    private static void changedAfterConverting() {
        for (int into = 0; into < 2; into++) {
            Calls x = parted("CONVERTED, and CHANGED in one alone", steps(step("retype", 0, 0, 2)),
                steps(step("cell", 10, 0, 126)));
            x.numberIs(126, 8, x.makes("merge", into, 1 - into, 0), 10, 0);
            Calls y = parted("CONVERTED, and CHANGED in both, alike",
                steps(step("retype", 0, 0, 2), step("cell", 10, 0, -128)), steps(step("cell", 10, 0, -129)));
            y.numberIs(-128, 8, y.makes("merge", into, 1 - into, 0), 10, 0);
            Calls z = parted("CONVERTED, and EMPTY in one", steps(step("retype", 0, 0, 2)),
                steps(step("empty", 10, 0)));
            z.emptyIs(8, z.makes("merge", into, 1 - into, 0), 10, 0);
        }
    }

    private static void againstTheBaseThatCanNotBe() {
        String sentence = "against one of the BASE that can not be, each is";
        for (int into = 0; into < 2; into++) {
            Calls x = parted(sentence, steps(step("cell", 10, 0, 5), step("retype", 0, 0, 0)),
                steps(step("cell", 10, 0, 5)));
            x.numberIs(5, 7, x.makes("merge", into, 1 - into, 0), 10, 0);
            Calls y = parted(sentence + ", EMPTY", steps(step("empty", 10, 0), step("retype", 0, 0, 0)),
                steps(step("empty", 10, 0)));
            y.emptyIs(7, y.makes("merge", into, 1 - into, 0), 10, 0);
            Calls z = parted(sentence + ", unlike", steps(step("cell", 10, 0, 5), step("retype", 0, 0, 0)),
                steps(step("empty", 10, 0)));
            z.clashes(into, 1 - into, new int[] {6, 0, 0});
        }
    }

    private static void convertedWhereRuleAlone() {
        for (int rule = 1; rule < 3; rule++) {
            Parted.merged(DUE, "RULE alone is CHANGED: the KIND has all numbers", steps(step("retype", 0, 1, rule)),
                steps(step("cell", 11, 0, 32767)), (x, v) -> {
                    x.numberIs(500, 6, v, 10, 0);
                    x.numberIs(32767, 8, v, 11, 0);
                });
        }
        Parted.merged(DUE, "a greater KIND has all numbers", steps(step("retype", 0, 3, 0)),
            steps(step("cell", 11, 0, -32768)), (x, v) -> {
                x.numberIs(500, 6, v, 10, 0);
                x.numberIs(-32768, 8, v, 11, 0);
            });
    }

    // ---- what is NEW

    private static void newRow() {
        String sentence = "A CELL whose ROW is NEW in one: as it is there";
        for (int into = 0; into < 2; into++) {
            Calls x = parted(sentence, steps(step("row", 60), step("cell", 60, 0, 7)), steps(step("cell", 11, 1, 5)));
            int v = x.makes("merge", into, 1 - into, 0);
            x.numberIs(7, 8, v, 60, 0);
            x.emptyIs(7, v, 60, 1);
        }
    }

    private static void newColumn() {
        String sentence = "A CELL whose COLUMN is NEW in one: as it is there";
        for (int into = 0; into < 2; into++) {
            Calls x = parted(sentence, steps(step("column", 0), step("cell", 10, 2, 7)), steps(step("cell", 11, 1, 5)));
            int v = x.makes("merge", into, 1 - into, 0);
            x.numberIs(7, 8, v, 10, 2);
            x.emptyIs(7, v, 11, 2);
        }
    }

    private static void newRowAndNewColumn() {
        String sentence = "if its COLUMN is NEW in one and its ROW in the other: EMPTY, MADE by the new VERSION";
        for (int into = 0; into < 2; into++) {
            Calls x = parted(sentence, steps(step("row", 60), step("column", 0), step("cell", 60, 2, 7)),
                steps(step("row", 70), step("column", 0), step("cell", 70, 3, 8)));
            int v = x.makes("merge", into, 1 - into, 0);
            x.emptyIs(v, v, 60, 3);
            x.emptyIs(v, v, 70, 2);
            x.numberIs(7, 9, v, 60, 2);
            x.numberIs(8, 12, v, 70, 3);
            x.emptyIs(11, v, 10, 3);
            x.emptyIs(8, v, 10, 2);
            x.emptyIs(7, v, 60, 0);
            x.emptyIs(10, v, 70, 0);
        }
    }

    /** ROW 3 and COLUMN 2 are in both, by the lesser of two common VERSIONS, and not in the BASE. */
    private static void newInBoth() {
        String sentence = "of a COLUMN, ROW that is in a and b, and not in the BASE: in both";
        Calls x = Parted.across(DUE, sentence);
        int v = x.makes("merge", 2, 3, 0);
        x.rowsAre(v, 0, 1, 2, 3);
        x.columnsAre(v, 0, 1, 2);
        x.numberIs(4, 9, v, 60, 2);
        x.emptyIs(8, v, 10, 2);
        Calls y = Parted.across(DUE, sentence + ": made anew, alike: by the lesser");
        int again = y.makes("cell", 2, 0, 60, 2, 4);
        y.numberIs(4, again, again, 60, 2);
        y.numberIs(4, 9, y.makes("merge", 2, 3, 0), 60, 2);
        Calls z = Parted.across(DUE, sentence + ": unlike");
        z.makes("cell", 2, 0, 60, 2, 5);
        z.clashes(2, 3, new int[] {6, 3, 2});
        z.clashes(3, 2, new int[] {6, 3, 2});
        Calls w = Parted.across(DUE, sentence + ": in one alone it is NEW there");
        w.makes("gone", 2, 0, 60);
        w.makes("drop", 2, 0, 2);
        v = w.makes("merge", 2, 3, 0);
        w.rowsAre(v, 0, 1, 2, 3);
        w.columnsAre(v, 0, 1, 2);
        w.numberIs(4, 9, v, 60, 2);
    }

    private static void newRowConverted() {
        String sentence = "CONVERTED likewise, if the COLUMN is in both";
        for (int into = 0; into < 2; into++) {
            Calls x = parted(sentence, steps(step("retype", 0, 0, 1)),
                steps(step("row", 60), step("cell", 60, 0, 128), step("row", 61), step("cell", 61, 0, -128)));
            int v = x.makes("merge", into, 1 - into, 0);
            x.numberIs(-128, 9, v, 60, 0);
            x.numberIs(-128, 11, v, 61, 0);
            x.emptyIs(8, v, 60, 1);
            Calls y = parted(sentence + ": it is of the KIND where that is CHANGED",
                steps(step("retype", 0, 3, 0), step("row", 60), step("cell", 60, 0, Long.MAX_VALUE)),
                steps(step("cell", 11, 1, 5)));
            y.numberIs(Long.MAX_VALUE, 9, y.makes("merge", into, 1 - into, 0), 60, 0);
        }
    }

    /** A NEW ROW has no CELL of a COLUMN that goes in the other, and a NEW COLUMN none of a ROW that goes there. */
    private static void inOneAlone() {
        Parted.merged(DUE, "a NEW ROW, and a COLUMN that goes in the other",
            steps(step("row", 60), step("cell", 60, 0, 7), step("cell", 60, 1, 8)), steps(step("drop", 0)), (x, v) -> {
                x.is(NO, "has", v, 60, 0);
                x.is(8, "value", v, 60, 1);
            });
        Parted.merged(DUE, "a NEW COLUMN, and a ROW that goes in the other",
            steps(step("column", 0), step("cell", 11, 2, 7), step("cell", 12, 2, 8)), steps(step("gone", 11)),
            (x, v) -> {
                x.is(NO, "has", v, 11, 2);
                x.is(8, "value", v, 12, 2);
            });
    }

    private static void whoAndParents() {
        Calls x = parted("the new VERSION, whose parents are that of the BRANCH, then the other",
            steps(step("cell", 11, 0, 1)), steps(step("cell", 12, 0, 1)));
        x.is(9, "merge", 1, 0, 9);
        x.is(9, "version", 9, 0);
        x.is(8, "version", 9, 1);
        x.is(7, "version", 9, 2);
        x.is(9, "at", 1);
        x.is(7, "at", 0);
        x.is(6, "at", 2);
        x.is(7, "base", 9, 7);
        x.is(8, "base", 9, 8);
    }
}
