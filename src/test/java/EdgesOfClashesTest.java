/** Each sort of CLASH: where it is, where it is not, where it is not looked for, and in which order they are told. */
public final class EdgesOfClashesTest {
    private static final int NONE = -4;
    private static final Due DUE = new Due();
    private static final Parted.Step[] ELSEWHERE = {step("cell", 12, 1, 77)};

    public static void main(String[] args) {
        columnGoneAndKind();
        columnGoneAndCell();
        columnGoneAndNothing();
        columnGoneAndRowsElsewhere();
        columnGoneWithoutRows();
        columnsOfTen();
        kindInBoth();
        kindInBothAlike();
        kindAtOtherPlaces();
        kindOfWhatIsNew();
        kindClashOfEarlierMerge();
        ruleOfRowsInBoth();
        ruleOfNewRows();
        ruleWithoutClash();
        ruleNotOfRowsThatGo();
        ruleNotInOtherClashes();
        rowGoneAndKey();
        rowGoneAndCell();
        rowGoneAndNothing();
        rowGoneAndColumns();
        rowGoneConverted();
        rowGoneInNewColumn();
        keyInBoth();
        keyNotOfRowsThatGo();
        cellInBoth();
        cellNotInBoth();
        cellNotWhereRuleIs();
        cellNotInOtherClashes();
        sameKey();
        noSameKey();
        sizeOfColumns();
        sizeOfRows();
        sizeOnce();
        sameKeyAndSize();
        lastOnesOnlyAlone();
        orderOfSorts();
        orderByRowThenColumn();
        numbersNotPlaces();
        mostClashes();
        nothingIsMerged();
        nothingOfAnEarlierMerge();
        DUE.end();
    }

    private static Parted.Step step(String name, long... numbers) {
        return new Parted.Step(name, numbers);
    }

    private static Parted.Step[] steps(Parted.Step... all) {
        return all;
    }

    private static int[] clash(int sort, int row, int column) {
        return new int[] {sort, row, column};
    }

    private static void clashes(String sentence, Parted.Step[] one, Parted.Step[] other, int[]... all) {
        Parted.clashes(DUE, sentence, one, other, all);
    }

    private static void none(String sentence, Parted.Step[] one, Parted.Step[] other) {
        Parted.merged(DUE, sentence, one, other, (x, v) -> x.clashesAre());
    }

    // ---- 1

    private static void columnGoneAndKind() {
        clashes("1: gone in one, and in the other its KIND is CHANGED", steps(step("drop", 0)),
            steps(step("retype", 0, 3, 0)), clash(1, NONE, 0));
        clashes("1: gone in one, and in the other its RULE is CHANGED", steps(step("drop", 0)),
            steps(step("retype", 0, 1, 1)), clash(1, NONE, 0));
        none("1: KIND as in the BASE again", steps(step("drop", 0)),
            steps(step("retype", 0, 3, 1), step("retype", 0, 1, 0)));
    }

    private static void columnGoneAndCell() {
        String sentence = "1: gone in one, and in the other a CELL of it is CHANGED";
        clashes(sentence, steps(step("drop", 0)), steps(step("cell", 12, 0, 0)), clash(1, NONE, 0));
        clashes(sentence, steps(step("drop", 0)), steps(step("cell", 10, 0, 501)), clash(1, NONE, 0));
        clashes(sentence, steps(step("drop", 0)), steps(step("empty", 10, 0)), clash(1, NONE, 0));
        clashes(sentence, steps(step("drop", 1)), steps(step("cell", 10, 1, 5), step("move", 10, 60)),
            clash(1, NONE, 1));
        clashes(sentence + ", of each", steps(step("drop", 1), step("drop", 0)),
            steps(step("cell", 12, 1, 5), step("cell", 11, 0, 5)), clash(1, NONE, 0), clash(1, NONE, 1));
        clashes(sentence + ", each in one", steps(step("drop", 0), step("cell", 12, 1, 5)),
            steps(step("drop", 1), step("cell", 12, 0, 5)), clash(1, NONE, 0), clash(1, NONE, 1));
    }

    private static void columnGoneAndNothing() {
        none("1: gone in one, and in the other nothing of it", steps(step("drop", 0)), ELSEWHERE);
        none("1: a CELL made anew is not CHANGED", steps(step("drop", 0)),
            steps(step("cell", 10, 0, 500), step("empty", 11, 0)));
        none("1: a CELL that is as in the BASE again is not CHANGED", steps(step("drop", 0)),
            steps(step("cell", 10, 0, 7), step("cell", 10, 0, 500)));
        none("1: gone in both", steps(step("drop", 0)), steps(step("cell", 10, 0, 7), step("drop", 0)));
        none("1: a ROW's KEY is nothing of it", steps(step("drop", 0)), steps(step("move", 10, 60)));
    }

    private static void columnGoneAndRowsElsewhere() {
        none("1: not a CELL of a ROW that is NEW", steps(step("drop", 0)),
            steps(step("row", 60), step("cell", 60, 0, 7)));
        none("1: not a CELL of a ROW of the BASE that is not there", steps(step("drop", 0)),
            steps(step("cell", 10, 0, 7), step("gone", 10)));
        clashes("1: a CELL of a ROW of the BASE that went in the one", steps(step("drop", 0), step("gone", 10)),
            steps(step("cell", 10, 0, 7)), clash(1, NONE, 0));
    }

    private static void columnGoneWithoutRows() {
        Calls x = new Calls(DUE, "1 and 2 in TABLES without ROWS");
        for (int i = 0; i < 3; i++) {
            x.makes("column", 0, 0, 1);
        }
        x.is(0, "branch", 1, 3);
        x.makes("drop", 0, 0, 2);
        x.makes("retype", 1, 0, 2, 0, 0);
        x.makes("retype", 0, 0, 1, 2, 0);
        x.makes("retype", 1, 0, 1, 3, 0);
        x.clashes(0, 1, clash(1, NONE, 2), clash(2, NONE, 1));
        x.clashes(1, 0, clash(1, NONE, 2), clash(2, NONE, 1));
    }

    /** BRANCH 0 has the COLUMNS 0 to 4, which were made first; BRANCH 1 has 5 to 9, those of the BASE. */
    private static void columnsOfTen() {
        Calls x = new Calls(DUE, "1: of 10 COLUMNS, 5 in each");
        for (int column = 0; column < 5; column++) {
            x.makes("column", 2, 0, 3);
        }
        for (int column = 0; column < 5; column++) {
            x.makes("column", 0, 0, 2);
        }
        x.makes("row", 0, 0, 10);
        x.is(0, "branch", 1, 11);
        for (int column = 5; column < 10; column++) {
            x.makes("drop", 0, 0, column);
        }
        x.columnsAre(x.makes("merge", 0, 2, 0), 0, 1, 2, 3, 4);
        x.makes("cell", 1, 0, 10, 9, 1);
        x.clashes(0, 1, clash(1, NONE, 9));
        x.makes("cell", 1, 0, 10, 5, 1);
        x.makes("retype", 1, 0, 8, 0, 0);
        x.clashes(0, 1, clash(1, NONE, 5), clash(1, NONE, 8), clash(1, NONE, 9));
        x.clashes(1, 0, clash(1, NONE, 5), clash(1, NONE, 8), clash(1, NONE, 9));
    }

    // ---- 2

    private static void kindInBoth() {
        clashes("2: KIND is CHANGED in both, unlike", steps(step("retype", 0, 2, 0)), steps(step("retype", 0, 3, 0)),
            clash(2, NONE, 0));
        clashes("2: RULE is CHANGED in both, unlike", steps(step("retype", 0, 1, 1)), steps(step("retype", 0, 1, 2)),
            clash(2, NONE, 0));
        clashes("2: KIND alike, RULE unlike", steps(step("retype", 0, 3, 1)), steps(step("retype", 0, 3, 2)),
            clash(2, NONE, 0));
        clashes("2: KIND in one, RULE in the other", steps(step("retype", 0, 3, 0)), steps(step("retype", 0, 1, 2)),
            clash(2, NONE, 0));
        clashes("2: of each COLUMN", steps(step("retype", 1, 3, 0), step("retype", 0, 3, 0)),
            steps(step("retype", 0, 2, 0), step("retype", 1, 3, 1)), clash(2, NONE, 0), clash(2, NONE, 1));
    }

    private static void kindInBothAlike() {
        none("2: KIND and RULE are CHANGED in both, alike", steps(step("retype", 0, 3, 1)),
            steps(step("retype", 0, 3, 1)));
        none("2: CHANGED in one alone", steps(step("retype", 0, 3, 1)), steps(step("retype", 1, 3, 2)));
        none("2: in one it is as in the BASE again", steps(step("retype", 0, 3, 1)),
            steps(step("retype", 0, 2, 2), step("retype", 0, 1, 0)));
    }

    private static void kindAtOtherPlaces() {
        none("2: alike, with another COLUMN gone in one", steps(step("drop", 0), step("retype", 1, 3, 1)),
            steps(step("retype", 1, 3, 1)));
        clashes("2: unlike, with another COLUMN gone in one", steps(step("drop", 0), step("retype", 1, 3, 1)),
            steps(step("retype", 1, 3, 2)), clash(2, NONE, 1));
    }

    /** The CLASH 2 of an earlier merge does not keep the COLUMN from the CLASHES of a later one. */
    private static void kindClashOfEarlierMerge() {
        Calls x = Parted.calls(DUE, "2: COLUMNS without a CLASH 2 in this merge", steps(step("retype", 0, 2, 0)),
            steps(step("retype", 0, 3, 0)));
        x.makes("cell", 2, 0, 10, 0, 1);
        x.makes("cell", 3, 0, 10, 0, 2);
        x.clashes(0, 1, clash(2, NONE, 0));
        x.clashes(2, 3, clash(6, 0, 0));
        x.clashes(0, 1, clash(2, NONE, 0));
        x.makes("gone", 4, 0, 10);
        x.clashes(4, 3, clash(4, 0, NONE));
    }

    private static void kindOfWhatIsNew() {
        Calls x = Parted.across(DUE, "2: a COLUMN that is in a and b, and not in the BASE");
        x.makes("retype", 2, 0, 2, 3, 0);
        x.clashes(2, 3, clash(2, NONE, 2));
        x.clashes(3, 2, clash(2, NONE, 2));
        x.makes("retype", 3, 0, 2, 3, 0);
        x.makes("merge", 2, 3, 0);
    }

    // ---- 3

    private static void ruleOfRowsInBoth() {
        String sentence = "3: a CELL of a, b can not be CONVERTED, of a ROW that is in both";
        clashes(sentence, steps(step("cell", 10, 0, 5), step("retype", 0, 0, 0)), ELSEWHERE, clash(3, 0, 0));
        Parted.Step[] narrow = steps(step("cell", 10, 0, 5), step("retype", 0, 0, 0));
        Parted.Step[] fits = {step("empty", 10, 0)};
        clashes(sentence + ": EMPTY can be", narrow, fits, clash(6, 0, 0));
        clashes(sentence + ": 128", narrow, steps(step("cell", 10, 0, 5), step("cell", 11, 0, 128)), clash(3, 1, 0));
        clashes(sentence + ": -129", narrow, steps(step("cell", 10, 0, 5), step("cell", 11, 0, -129)), clash(3, 1, 0));
        none(sentence + ": 127, -128", narrow,
            steps(step("cell", 10, 0, 5), step("cell", 11, 0, 127), step("cell", 12, 0, -128)));
    }

    private static void ruleOfNewRows() {
        String sentence = "3: a CELL of a, b can not be CONVERTED, of a ROW that is NEW in one";
        Parted.Step[] narrow = steps(step("cell", 10, 0, 5), step("retype", 0, 0, 0));
        clashes(sentence, narrow, steps(step("cell", 10, 0, 5), step("row", 60), step("cell", 60, 0, 128)),
            clash(3, 3, 0));
        none(sentence + ": 127", narrow, steps(step("cell", 10, 0, 5), step("row", 60), step("cell", 60, 0, 127)));
        none(sentence + ": where the KIND is CHANGED all are of it",
            steps(step("retype", 0, 3, 0), step("row", 60), step("cell", 60, 0, Long.MAX_VALUE)), ELSEWHERE);
    }

    private static void ruleWithoutClash() {
        for (int rule = 1; rule < 3; rule++) {
            none("3: by RULE " + rule + " each can be CONVERTED", steps(step("retype", 0, 0, rule)),
                steps(step("cell", 11, 0, 32767), step("row", 60), step("cell", 60, 0, -32768)));
        }
        none("3: a greater KIND has each", steps(step("retype", 0, 2, 0)), steps(step("cell", 11, 0, 32767)));
        none("3: a COLUMN that is NEW in one is not CONVERTED", steps(step("column", 0)), steps(step("row", 60)));
    }

    private static void ruleNotOfRowsThatGo() {
        clashes("3: not of a ROW that is gone in one: it is CHANGED, a CLASH 4",
            steps(step("gone", 10), step("retype", 0, 0, 0)), ELSEWHERE, clash(4, 0, NONE));
        none("3: not of a ROW that is gone in both", steps(step("gone", 10), step("retype", 0, 0, 0)),
            steps(step("cell", 10, 0, 7), step("gone", 10)));
    }

    private static void ruleNotInOtherClashes() {
        clashes("3: is looked for in COLUMNS without a CLASH 1", steps(step("drop", 0)),
            steps(step("cell", 10, 0, 5), step("retype", 0, 0, 0)), clash(1, NONE, 0));
        clashes("3: is looked for in COLUMNS without a CLASH 2", steps(step("cell", 10, 0, 5), step("retype", 0, 0, 0)),
            steps(step("cell", 11, 0, 300), step("retype", 0, 2, 0)), clash(2, NONE, 0));
    }

    // ---- 4

    private static void rowGoneAndKey() {
        clashes("4: gone in one, and in the other its KEY is CHANGED", steps(step("gone", 11)),
            steps(step("move", 11, 60)), clash(4, 1, NONE));
        none("4: its KEY is as in the BASE again", steps(step("gone", 11)),
            steps(step("move", 11, 60), step("move", 60, 11)));
    }

    private static void rowGoneAndCell() {
        String sentence = "4: gone in one, and in the other a CELL of it is CHANGED";
        clashes(sentence, steps(step("gone", 11)), steps(step("cell", 11, 0, 0)), clash(4, 1, NONE));
        clashes(sentence, steps(step("gone", 10)), steps(step("empty", 10, 0)), clash(4, 0, NONE));
        clashes(sentence, steps(step("gone", 12)), steps(step("cell", 12, 1, 9)), clash(4, 2, NONE));
        clashes(sentence + ", of each", steps(step("gone", 12), step("gone", 10), step("gone", 11)),
            steps(step("cell", 12, 1, 9), step("cell", 10, 0, 9)), clash(4, 0, NONE), clash(4, 2, NONE));
        clashes(sentence + ", each in one", steps(step("gone", 12), step("cell", 10, 0, 9)),
            steps(step("gone", 10), step("cell", 12, 0, 9)), clash(4, 0, NONE), clash(4, 2, NONE));
    }

    private static void rowGoneAndNothing() {
        none("4: gone in one, and in the other nothing of it", steps(step("gone", 10)), ELSEWHERE);
        none("4: a CELL made anew is not CHANGED", steps(step("gone", 10)),
            steps(step("cell", 10, 0, 500), step("empty", 10, 1)));
        none("4: a CELL that is as in the BASE again", steps(step("gone", 10)),
            steps(step("cell", 10, 0, 7), step("cell", 10, 0, 500)));
        none("4: gone in both", steps(step("gone", 10)), steps(step("cell", 10, 0, 7), step("gone", 10)));
    }

    private static void rowGoneAndColumns() {
        none("4: not a CELL in a COLUMN that is NEW in one", steps(step("gone", 10)),
            steps(step("column", 0), step("cell", 10, 2, 7)));
        clashes("4: not a CELL in a COLUMN that is gone in one", steps(step("gone", 10), step("drop", 0)),
            steps(step("cell", 10, 0, 7)), clash(1, NONE, 0));
        clashes("4: is looked for in COLUMNS without a CLASH 2", steps(step("gone", 10), step("retype", 0, 1, 1)),
            steps(step("cell", 10, 0, 7), step("retype", 0, 1, 2)), clash(2, NONE, 0));
        clashes("4: its KEY, whatever the COLUMNS", steps(step("gone", 10), step("retype", 0, 1, 1)),
            steps(step("move", 10, 60), step("retype", 0, 1, 2)), clash(2, NONE, 0), clash(4, 0, NONE));
    }

    private static void rowGoneConverted() {
        none("4: CELLS CONVERTED as told: by the other's own RETYPE", steps(step("gone", 10)),
            steps(step("retype", 0, 0, 2)));
        none("4: CELLS CONVERTED as told: 300 is KEPT as 500 is", steps(step("gone", 10), step("retype", 0, 0, 2)),
            steps(step("cell", 10, 0, 300)));
        clashes("4: CELLS CONVERTED as told: 126 is not", steps(step("gone", 10), step("retype", 0, 0, 2)),
            steps(step("cell", 10, 0, 126)), clash(4, 0, NONE));
        clashes("4: one that can not be is CHANGED", steps(step("gone", 10), step("retype", 0, 0, 0)), ELSEWHERE,
            clash(4, 0, NONE));
        clashes("4: against one of the BASE that can not be, each is", steps(step("gone", 10), step("retype", 0, 0, 0)),
            steps(step("cell", 10, 0, 5)), clash(4, 0, NONE));
        clashes("4: against one of the BASE that can not be, each is, there", steps(step("gone", 10)),
            steps(step("empty", 10, 0), step("retype", 0, 0, 0)), clash(4, 0, NONE));
    }

    private static void rowGoneInNewColumn() {
        Calls x = Parted.across(DUE, "4: in a COLUMN that is in a and b, and not in the BASE, each CELL is CHANGED");
        x.makes("gone", 2, 0, 12);
        x.clashes(2, 3, clash(4, 2, NONE));
        x.clashes(3, 2, clash(4, 2, NONE));
        x.makes("drop", 2, 0, 2);
        x.makes("merge", 2, 3, 0);
    }

    // ---- 5

    private static void keyInBoth() {
        clashes("5: its KEY is CHANGED in both, unlike", steps(step("move", 11, 0)), steps(step("move", 11, 99)),
            clash(5, 1, NONE));
        clashes("5: of each ROW", steps(step("move", 12, 50), step("move", 10, 51)),
            steps(step("move", 10, 52), step("move", 12, 53)), clash(5, 0, NONE), clash(5, 2, NONE));
        none("5: alike", steps(step("move", 11, 99)), steps(step("move", 11, 99)));
        none("5: CHANGED in one alone", steps(step("move", 11, 99)), steps(step("move", 12, 98)));
        none("5: in one it is as in the BASE again", steps(step("move", 11, 99)),
            steps(step("move", 11, 50), step("move", 50, 11)));
        Calls x = Parted.across(DUE, "5: a ROW that is in a and b, and not in the BASE");
        x.makes("move", 3, 0, 60, 61);
        x.clashes(2, 3, clash(5, 3, NONE));
        x.clashes(3, 2, clash(5, 3, NONE));
    }

    private static void keyNotOfRowsThatGo() {
        clashes("5: in ROWS that are in both", steps(step("move", 11, 50), step("gone", 50)),
            steps(step("move", 11, 99)), clash(4, 1, NONE));
    }

    // ---- 6

    private static void cellInBoth() {
        String sentence = "6: CHANGED in both, unlike";
        clashes(sentence, steps(step("cell", 10, 0, 1)), steps(step("cell", 10, 0, 2)), clash(6, 0, 0));
        clashes(sentence + ", one EMPTY", steps(step("cell", 10, 0, 0)), steps(step("empty", 10, 0)), clash(6, 0, 0));
        clashes(sentence + ", EMPTY in the BASE", steps(step("cell", 12, 1, 0)), steps(step("cell", 12, 1, -1)),
            clash(6, 2, 1));
        clashes(sentence + ", CONVERTED", steps(step("retype", 0, 0, 2), step("cell", 10, 0, 126)),
            steps(step("cell", 10, 0, 125)), clash(6, 0, 0));
    }

    private static void cellNotInBoth() {
        none("6: CHANGED in both, alike", steps(step("cell", 10, 0, 1)), steps(step("cell", 10, 0, 1)));
        none("6: CHANGED in both, EMPTY", steps(step("empty", 10, 0)), steps(step("empty", 10, 0)));
        none("6: CHANGED in one alone", steps(step("cell", 10, 0, 1)), steps(step("cell", 10, 0, 500)));
        none("6: CONVERTED, alike", steps(step("retype", 0, 0, 2), step("cell", 11, 0, 127)),
            steps(step("cell", 11, 0, 128)));
        none("6: CONVERTED, as the BASE", steps(step("retype", 0, 0, 2), step("cell", 10, 0, 126)),
            steps(step("cell", 10, 0, 128)));
        clashes("6: in ROWS that are in both", steps(step("cell", 10, 0, 1), step("gone", 10)),
            steps(step("cell", 10, 0, 2)), clash(4, 0, NONE));
    }

    private static void cellNotWhereRuleIs() {
        clashes("6: not where 3 is", steps(step("cell", 10, 0, 5), step("retype", 0, 0, 0)),
            steps(step("cell", 10, 0, 128)), clash(3, 0, 0));
        clashes("6: not where 3 is, but beside it",
            steps(step("cell", 10, 0, 5), step("cell", 10, 1, 5), step("retype", 0, 0, 0)),
            steps(step("cell", 10, 0, 128), step("cell", 10, 1, 6)), clash(3, 0, 0), clash(6, 0, 1));
    }

    private static void cellNotInOtherClashes() {
        clashes("6: is looked for in COLUMNS without a CLASH 1", steps(step("cell", 10, 0, 1), step("drop", 0)),
            steps(step("cell", 10, 0, 2)), clash(1, NONE, 0));
        clashes("6: is looked for in COLUMNS without a CLASH 2", steps(step("cell", 10, 0, 1), step("retype", 0, 2, 0)),
            steps(step("cell", 10, 0, 2), step("retype", 0, 3, 0)), clash(2, NONE, 0));
        clashes("6: in the other COLUMNS it is", steps(step("retype", 0, 2, 0), step("cell", 10, 1, 1)),
            steps(step("retype", 0, 3, 0), step("cell", 10, 1, 2)), clash(2, NONE, 0), clash(6, 0, 1));
    }

    // ---- 7

    private static void sameKey() {
        clashes("7: of the RESULT a lesser ROW has its KEY", steps(step("row", 60)), steps(step("row", 60)),
            clash(7, 4, NONE));
        clashes("7: a lesser ROW that moved there", steps(step("move", 10, 60)), steps(step("row", 60)),
            clash(7, 3, NONE));
        clashes("7: two that moved there", steps(step("move", 12, 60)), steps(step("move", 10, 60)), clash(7, 2, NONE));
        clashes("7: of each ROW", steps(step("row", 60), step("row", 0)), steps(step("row", 0), step("row", 60)),
            clash(7, 5, NONE), clash(7, 6, NONE));
        Calls x = Parted.across(DUE, "7: a ROW that is in both has its KEY once");
        x.makes("merge", 2, 3, 0);
        x.clashesAre();
    }

    private static void noSameKey() {
        none("7: a ROW that is not of the RESULT has none", steps(step("gone", 10), step("row", 10)), ELSEWHERE);
        none("7: a ROW that is not of the RESULT, the greater one", steps(step("gone", 11), step("move", 10, 11)),
            ELSEWHERE);
        none("7: a KEY that its ROW left", steps(step("move", 10, 60), step("row", 10)), ELSEWHERE);
        none("7: two ROWS that changed places", steps(step("move", 10, 60), step("move", 11, 10), step("move", 60, 11)),
            ELSEWHERE);
        none("7: KEYS that lie beside one another", steps(step("row", 60)), steps(step("row", 61)));
    }

    // ---- 8

    private static void sizeOfColumns() {
        Parted.Step[] two = steps(step("column", 0), step("column", 0));
        Parted.merged(DUE, "8: 5 COLUMNS", two, steps(step("column", 0)), (x, v) -> x.is(5, "version", v, 3));
        clashes("8: more than 5 COLUMNS", two, two, clash(8, NONE, NONE));
        Parted.merged(DUE, "8: 5 COLUMNS, with one that goes", two,
            steps(step("column", 0), step("column", 0), step("drop", 0)), (x, v) -> x.is(5, "version", v, 3));
        clashes("8: more than 5 COLUMNS, with one that goes", two,
            steps(step("drop", 0), step("column", 0), step("column", 0), step("column", 0)), clash(8, NONE, NONE));
    }

    private static Parted.Step[] rows(int firstKey, int howMany) {
        Parted.Step[] all = new Parted.Step[howMany];
        for (int i = 0; i < howMany; i++) {
            all[i] = step("row", firstKey + i);
        }
        return all;
    }

    private static void sizeOfRows() {
        Parted.merged(DUE, "8: 16 ROWS", rows(20, 7), rows(40, 6), (x, v) -> x.is(16, "version", v, 4));
        clashes("8: more than 16 ROWS", rows(20, 7), rows(40, 7), clash(8, NONE, NONE));
        Calls x = Parted.calls(DUE, "8: ROWS, with one that goes", steps(step("gone", 12)), rows(40, 7));
        for (Parted.Step row : rows(20, 7)) {
            row.makeOn(x, 0);
        }
        x.is(6, "branch", 2, x.makes("row", 0, 0, 27) - 1);
        x.clashes(0, 1, clash(8, NONE, NONE));
        x.is(16, "version", x.makes("merge", 2, 1, 0), 4);
        clashes("8: 29 ROWS", rows(20, 13), rows(40, 13), clash(8, NONE, NONE));
    }

    private static void sizeOnce() {
        Calls x = Parted.calls(DUE, "8: SIZE (once, ROW and COLUMN NONE)", rows(20, 13), rows(40, 13));
        for (int branch = 0; branch < 2; branch++) {
            for (int i = 0; i < 3; i++) {
                x.makes("column", branch, 0, 0);
            }
        }
        x.clashes(0, 1, clash(8, NONE, NONE));
        x.clashes(1, 0, clash(8, NONE, NONE));
    }

    private static void sameKeyAndSize() {
        clashes("7 and 8", rows(20, 7), rows(26, 7), clash(7, 10, NONE), clash(8, NONE, NONE));
    }

    private static void lastOnesOnlyAlone() {
        Parted.Step[][] ones = {steps(step("drop", 0)), steps(step("retype", 0, 2, 0)),
            steps(step("cell", 10, 0, 5), step("retype", 0, 0, 0)), steps(step("gone", 10)),
            steps(step("move", 10, 50)), steps(step("cell", 10, 0, 5))};
        Parted.Step[][] others = {steps(step("cell", 10, 0, 6)), steps(step("retype", 0, 3, 0)), ELSEWHERE,
            steps(step("move", 10, 51)), steps(step("move", 10, 51)), steps(step("cell", 10, 0, 6))};
        int[][] found = {clash(1, NONE, 0), clash(2, NONE, 0), clash(3, 0, 0), clash(4, 0, NONE), clash(5, 0, NONE),
            clash(6, 0, 0)};
        for (int sort = 0; sort < 6; sort++) {
            Calls x = Parted.calls(DUE, "7, 8 only if there are no others: " + (sort + 1), ones[sort], others[sort]);
            for (Parted.Step row : rows(20, 7)) {
                row.makeOn(x, 0);
                row.makeOn(x, 1);
            }
            x.clashes(0, 1, found[sort]);
            x.clashes(1, 0, found[sort]);
        }
    }

    // ---- all of them

    /** COLUMNS 0 to 4 of 32 bits, ROWS 0 to 7 with the KEYS 10 to 17, all CELLS EMPTY; BRANCHES 0 and 1 are there. */
    private static Calls large(String sentence) {
        Calls x = new Calls(DUE, sentence);
        for (int i = 0; i < 5; i++) {
            x.makes("column", 0, 0, 2);
        }
        for (int key = 10; key < 18; key++) {
            x.makes("row", 0, 0, key);
        }
        x.is(0, "branch", 1, 13);
        return x;
    }

    private static void orderOfSorts() {
        Calls x = large("CLASHES, in this order");
        x.makes("cell", 0, 0, 10, 4, 1);
        x.makes("cell", 1, 0, 10, 4, 2);
        x.makes("move", 0, 0, 11, 50);
        x.makes("move", 1, 0, 11, 51);
        x.makes("gone", 0, 0, 12);
        x.makes("move", 1, 0, 12, 52);
        x.makes("retype", 0, 0, 3, 1, 0);
        x.makes("cell", 1, 0, 13, 3, 40000);
        x.makes("retype", 0, 0, 2, 3, 0);
        x.makes("retype", 1, 0, 2, 3, 1);
        x.makes("drop", 0, 0, 1);
        x.makes("cell", 1, 0, 14, 1, 5);
        int[][] all = {clash(1, NONE, 1), clash(2, NONE, 2), clash(3, 3, 3), clash(4, 2, NONE), clash(5, 1, NONE),
            clash(6, 0, 4)};
        x.clashes(0, 1, all);
        x.clashes(1, 0, all);
    }

    private static void orderByRowThenColumn() {
        Calls x = large("Of each sort by ROW, then COLUMN");
        for (int row = 2; row >= 0; row--) {
            for (int column = 2; column >= 0; column--) {
                x.makes("cell", column % 2, 0, 10 + row, column, 1);
                x.makes("cell", 1 - column % 2, 0, 10 + row, column, 2);
            }
        }
        for (int row = 5; row >= 4; row--) {
            for (int column = 4; column >= 3; column--) {
                x.makes("cell", 1, 0, 10 + row, column, 40000);
            }
        }
        x.makes("retype", 0, 0, 4, 1, 0);
        x.makes("retype", 0, 0, 3, 1, 0);
        int[][] all = {clash(3, 4, 3), clash(3, 4, 4), clash(3, 5, 3), clash(3, 5, 4), clash(6, 0, 0), clash(6, 0, 1),
            clash(6, 0, 2), clash(6, 1, 0), clash(6, 1, 1), clash(6, 1, 2), clash(6, 2, 0), clash(6, 2, 1),
            clash(6, 2, 2)};
        x.clashes(0, 1, all);
        x.clashes(1, 0, all);
    }

    /** COLUMNS 2 to 4 and ROWS 5 to 8 of a TABLE: neither places, nor alike. */
    private static void numbersNotPlaces() {
        Calls x = new Calls(DUE, "CLASHES tell NUMBERS");
        for (int i = 0; i < 5; i++) {
            x.makes("row", 4, 0, i);
        }
        x.makes("column", 4, 0, 0);
        x.makes("column", 4, 0, 0);
        for (int i = 0; i < 3; i++) {
            x.makes("column", 0, 0, 2);
        }
        for (int key = 10; key < 14; key++) {
            x.makes("row", 0, 0, key);
        }
        x.is(0, "branch", 1, 14);
        x.makes("drop", 0, 0, 2);
        x.makes("cell", 1, 0, 12, 2, 5);
        x.makes("retype", 0, 0, 3, 1, 0);
        x.makes("retype", 1, 0, 3, 3, 0);
        x.makes("retype", 0, 0, 4, 0, 0);
        x.makes("cell", 1, 0, 13, 4, 1000);
        x.makes("gone", 0, 0, 10);
        x.makes("move", 1, 0, 10, 50);
        x.makes("move", 0, 0, 11, 51);
        x.makes("move", 1, 0, 11, 52);
        x.makes("cell", 0, 0, 12, 4, 1);
        x.makes("cell", 1, 0, 12, 4, 2);
        int[][] all = {clash(1, NONE, 2), clash(2, NONE, 3), clash(3, 8, 4), clash(4, 5, NONE), clash(5, 6, NONE),
            clash(6, 7, 4)};
        x.clashes(0, 1, all);
        x.clashes(1, 0, all);
    }

    /** 80 CELLS that can not be CONVERTED and 16 KEYS: as many as 150 VERSIONS let stand together here. */
    private static void mostClashes() {
        Calls x = new Calls(DUE, "CLASHES of all CELLS and all KEYS");
        for (int column = 0; column < 5; column++) {
            x.makes("column", 0, 0, 1);
        }
        for (int key = 0; key < 16; key++) {
            x.makes("row", 0, 0, key);
        }
        x.is(0, "branch", 1, 21);
        int[][] all = new int[96][];
        for (int i = 0; i < 80; i++) {
            x.makes("cell", 1, 0, i / 5, i % 5, 1000);
            all[i] = clash(3, i / 5, i % 5);
        }
        for (int column = 0; column < 5; column++) {
            x.makes("retype", 0, 0, column, 0, 0);
        }
        for (int key = 0; key < 16; key++) {
            x.makes("move", 0, 0, key, 20 + key);
            x.makes("move", 1, 0, key, 40 + key);
            all[80 + key] = clash(5, key, NONE);
        }
        x.clashes(0, 1, all);
        x.clashes(1, 0, all);
    }

    private static void nothingIsMerged() {
        Calls x = Parted.calls(DUE, "If there is one, nothing is merged",
            steps(step("cell", 10, 0, 1), step("cell", 11, 0, 1), step("row", 60)),
            steps(step("cell", 10, 0, 2), step("cell", 12, 0, 1), step("column", 0)));
        x.clashes(0, 1, clash(6, 0, 0));
        x.is(9, "at", 0);
        x.is(12, "at", 1);
        x.is(13, "count", 0);
        x.makes("cell", 1, 0, 10, 0, 1);
        x.is(14, "merge", 0, 1, 0);
        x.clashesAre(clash(6, 0, 0));
    }

    /** The last COLUMN and the last ROW clash in one merge, and are gone in both in the next one. */
    private static void nothingOfAnEarlierMerge() {
        Calls x = Parted.calls(DUE, "CLASHES are those of this merge alone", steps(step("drop", 1)),
            steps(step("cell", 12, 1, 5)));
        x.makes("drop", 2, 0, 1);
        x.makes("drop", 3, 0, 1);
        x.clashes(0, 1, clash(1, NONE, 1));
        x.columnsAre(x.makes("merge", 2, 3, 0), 0);
        Calls y = Parted.calls(DUE, "CLASHES are those of this merge alone, of ROWS", steps(step("gone", 12)),
            steps(step("move", 12, 60)));
        y.makes("gone", 2, 0, 12);
        y.makes("gone", 3, 0, 12);
        y.clashes(0, 1, clash(4, 2, NONE));
        y.rowsAre(y.makes("merge", 2, 3, 0), 0, 1);
    }
}
