/** Each sort of DIFFERENCE: where it is, where it is not, and in which order they are told. */
public final class EdgesOfDifferencesTest {
    private static final int NONE = -4;
    private static final Due DUE = new Due();

    public static void main(String[] args) {
        ofOneVersion();
        columnGoes();
        columnComes();
        anotherKind();
        anotherRule();
        kindAndBack();
        rowGoes();
        rowComes();
        anotherKey();
        keyAndBack();
        rowThatCameAgain();
        cellUnlike();
        cellByEmpty();
        cellWhateverTheKinds();
        cellsOfWhatIsInOneAlone();
        whoMadeItIsNone();
        acrossBranches();
        order();
        numbersNotPlaces();
        mostDifferences();
        nothingInCommon();
        DUE.end();
    }

    private static int[] told(int sort, int row, int column) {
        return new int[] {sort, row, column};
    }

    /** COLUMNS 0 and 1, ROWS 0 to 2 with the KEYS 10 to 12, a 500 at 10, 0; VERSION 6. */
    private static Calls start(String sentence) {
        return Parted.start(DUE, sentence);
    }

    private static void ofOneVersion() {
        Calls x = start("from a VERSION to itself there is none");
        x.differencesAre(6, 6);
        x.differencesAre(0, 6, told(2, NONE, 0), told(2, NONE, 1), told(5, 0, NONE), told(5, 1, NONE),
            told(5, 2, NONE));
        x.differencesAre(0, 0);
        x.differencesAre(2, 2);
    }

    private static void columnGoes() {
        Calls x = start("1 COLUMN c goes");
        x.makes("drop", 0, 0, 1);
        x.differencesAre(6, 7, told(1, NONE, 1));
        x.makes("drop", 0, 0, 0);
        x.differencesAre(6, 8, told(1, NONE, 0), told(1, NONE, 1));
    }

    private static void columnComes() {
        Calls x = start("2 COLUMN c comes");
        x.makes("column", 0, 0, 0);
        x.makes("column", 0, 0, 0);
        x.differencesAre(6, 8, told(2, NONE, 2), told(2, NONE, 3));
        x.differencesAre(8, 6, told(1, NONE, 2), told(1, NONE, 3));
        x.makes("drop", 0, 0, 0);
        x.makes("column", 0, 0, 1);
        x.differencesAre(8, 10, told(1, NONE, 0), told(2, NONE, 4));
    }

    private static void anotherKind() {
        Calls x = start("3 COLUMN c has another KIND");
        x.makes("retype", 0, 0, 1, 3, 0);
        x.differencesAre(6, 7, told(3, NONE, 1));
        x.differencesAre(7, 6, told(3, NONE, 1));
    }

    private static void anotherRule() {
        Calls x = start("3 COLUMN c has another RULE");
        x.makes("retype", 0, 0, 0, 1, 2);
        x.differencesAre(6, 7, told(3, NONE, 0));
        x.makes("retype", 0, 0, 0, 1, 1);
        x.differencesAre(7, 8, told(3, NONE, 0));
        x.makes("retype", 0, 0, 0, 1, 1);
        x.differencesAre(8, 9);
    }

    private static void kindAndBack() {
        Calls x = start("3 KIND, RULE that are the same again");
        x.makes("retype", 0, 0, 0, 3, 2);
        x.differencesAre(6, 7, told(3, NONE, 0));
        x.makes("retype", 0, 0, 0, 1, 0);
        x.differencesAre(6, 8);
    }

    private static void rowGoes() {
        Calls x = start("4 ROW r goes");
        x.makes("gone", 0, 0, 12);
        x.differencesAre(6, 7, told(4, 2, NONE));
        x.makes("gone", 0, 0, 10);
        x.differencesAre(6, 8, told(4, 0, NONE), told(4, 2, NONE));
    }

    private static void rowComes() {
        Calls x = start("5 ROW r comes");
        x.makes("row", 0, 0, 99);
        x.makes("row", 0, 0, 0);
        x.differencesAre(6, 8, told(5, 3, NONE), told(5, 4, NONE));
        x.differencesAre(8, 6, told(4, 3, NONE), told(4, 4, NONE));
    }

    private static void anotherKey() {
        Calls x = start("6 ROW r has another KEY");
        x.makes("move", 0, 0, 12, 0);
        x.differencesAre(6, 7, told(6, 2, NONE));
        x.differencesAre(7, 6, told(6, 2, NONE));
        x.makes("move", 0, 0, 10, 12);
        x.differencesAre(6, 8, told(6, 0, NONE), told(6, 2, NONE));
    }

    private static void keyAndBack() {
        Calls x = start("6 a KEY that is the same again");
        x.makes("move", 0, 0, 12, 0);
        x.makes("move", 0, 0, 0, 12);
        x.differencesAre(6, 8);
    }

    private static void rowThatCameAgain() {
        Calls x = start("a ROW that went and one that came with its KEY are two");
        x.makes("gone", 0, 0, 11);
        x.makes("row", 0, 0, 11);
        x.differencesAre(6, 8, told(4, 1, NONE), told(5, 3, NONE));
    }

    private static void cellUnlike() {
        Calls x = start("7 CELL r, c is unlike");
        x.makes("cell", 0, 0, 10, 0, 501);
        x.differencesAre(6, 7, told(7, 0, 0));
        x.makes("cell", 0, 0, 10, 0, 500);
        x.differencesAre(6, 8);
        x.differencesAre(7, 8, told(7, 0, 0));
        Calls y = start("7 CELL r, c is unlike, by the highest bit of 64");
        y.makes("retype", 0, 0, 0, 3, 0);
        y.makes("cell", 0, 0, 10, 0, Long.MIN_VALUE + 500);
        y.differencesAre(7, 8, told(7, 0, 0));
    }

    private static void cellByEmpty() {
        Calls x = start("7 unlike by EMPTY");
        x.makes("cell", 0, 0, 12, 1, 0);
        x.differencesAre(6, 7, told(7, 2, 1));
        x.differencesAre(7, 6, told(7, 2, 1));
        x.makes("empty", 0, 0, 12, 1);
        x.differencesAre(6, 8);
        x.makes("empty", 0, 0, 10, 0);
        x.differencesAre(6, 9, told(7, 0, 0));
    }

    private static void cellWhateverTheKinds() {
        Calls x = start("7 by numbers, whatever the KINDS");
        x.makes("retype", 0, 0, 0, 3, 0);
        x.differencesAre(6, 7, told(3, NONE, 0));
        x.makes("retype", 0, 0, 0, 0, 1);
        x.differencesAre(6, 8, told(3, NONE, 0), told(7, 0, 0));
        x.differencesAre(7, 8, told(3, NONE, 0), told(7, 0, 0));
    }

    private static void cellsOfWhatIsInOneAlone() {
        Calls x = start("7 ROW and COLUMN in both");
        x.makes("row", 0, 0, 60);
        x.makes("cell", 0, 0, 60, 0, 7);
        x.makes("column", 0, 0, 0);
        x.makes("cell", 0, 0, 10, 2, 7);
        x.makes("cell", 0, 0, 60, 2, 7);
        x.differencesAre(6, 11, told(2, NONE, 2), told(5, 3, NONE));
        x.differencesAre(11, 6, told(1, NONE, 2), told(4, 3, NONE));
        x.differencesAre(7, 11, told(2, NONE, 2), told(7, 3, 0));
    }

    private static void whoMadeItIsNone() {
        Calls x = start("which VERSION MADE a CELL is no DIFFERENCE");
        x.makes("cell", 0, 0, 10, 0, 500);
        x.makes("empty", 0, 0, 11, 0);
        x.differencesAre(6, 8);
    }

    private static void acrossBranches() {
        Calls x = start("from a VERSION x to y, of which none is AHEAD of the other");
        x.makes("cell", 0, 0, 10, 0, 1);
        x.makes("cell", 1, 0, 11, 0, 1);
        x.differencesAre(7, 8, told(7, 0, 0), told(7, 1, 0));
        x.differencesAre(8, 7, told(7, 0, 0), told(7, 1, 0));
    }

    private static void order() {
        Calls x = start("DIFFERENCES in this order, each sort by ROW, then COLUMN");
        x.makes("column", 0, 0, 2);
        int from = x.makes("row", 0, 0, 13);
        x.makes("cell", 0, 0, 13, 2, 1);
        x.makes("cell", 0, 0, 13, 1, 1);
        x.makes("cell", 0, 0, 12, 2, 1);
        x.makes("cell", 0, 0, 12, 1, 1);
        x.makes("move", 0, 0, 13, 50);
        x.makes("move", 0, 0, 12, 60);
        x.makes("row", 0, 0, 5);
        x.makes("row", 0, 0, 4);
        x.makes("gone", 0, 0, 11);
        x.makes("gone", 0, 0, 10);
        x.makes("retype", 0, 0, 2, 3, 0);
        x.makes("retype", 0, 0, 1, 3, 0);
        x.makes("column", 0, 0, 0);
        x.makes("column", 0, 0, 0);
        int to = x.makes("drop", 0, 0, 0);
        x.differencesAre(from, to, told(1, NONE, 0), told(2, NONE, 3), told(2, NONE, 4), told(3, NONE, 1),
            told(3, NONE, 2), told(4, 0, NONE), told(4, 1, NONE), told(5, 4, NONE), told(5, 5, NONE), told(6, 2, NONE),
            told(6, 3, NONE), told(7, 2, 1), told(7, 2, 2), told(7, 3, 1), told(7, 3, 2));
        x.differencesAre(to, from, told(1, NONE, 3), told(1, NONE, 4), told(2, NONE, 0), told(3, NONE, 1),
            told(3, NONE, 2), told(4, 4, NONE), told(4, 5, NONE), told(5, 0, NONE), told(5, 1, NONE), told(6, 2, NONE),
            told(6, 3, NONE), told(7, 2, 1), told(7, 2, 2), told(7, 3, 1), told(7, 3, 2));
    }

    /** COLUMNS 3 and 4, ROWS 1 and 2 of a TABLE: neither places, nor alike. */
    private static void numbersNotPlaces() {
        Calls x = new Calls(DUE, "DIFFERENCES tell NUMBERS");
        x.makes("row", 4, 0, 0);
        for (int column = 0; column < 3; column++) {
            x.makes("column", 4, 0, 0);
        }
        x.makes("column", 0, 0, 1);
        x.makes("column", 0, 0, 1);
        x.makes("row", 0, 0, 7);
        int from = x.makes("row", 0, 0, 8);
        x.makes("retype", 0, 0, 4, 2, 0);
        x.makes("move", 0, 0, 7, 9);
        x.makes("cell", 0, 0, 9, 3, 1);
        int to = x.makes("cell", 0, 0, 8, 4, 1);
        x.differencesAre(from, to, told(3, NONE, 4), told(6, 1, NONE), told(7, 1, 3), told(7, 2, 4));
        int last = x.makes("drop", 0, 0, 3);
        x.differencesAre(to, last, told(1, NONE, 3));
        x.differencesAre(from, last, told(1, NONE, 3), told(3, NONE, 4), told(6, 1, NONE), told(7, 2, 4));
        int gone = x.makes("gone", 0, 0, 9);
        x.differencesAre(from, gone, told(1, NONE, 3), told(3, NONE, 4), told(4, 1, NONE), told(7, 2, 4));
        x.differencesAre(gone, from, told(2, NONE, 3), told(3, NONE, 4), told(5, 1, NONE), told(7, 2, 4));
    }

    /** 5 KINDS, 16 KEYS and 80 CELLS: no two VERSIONS have more. */
    private static void mostDifferences() {
        Calls x = full("all KINDS, KEYS and CELLS");
        int[][] all = new int[101][];
        for (int column = 0; column < 5; column++) {
            x.makes("retype", 0, 0, column, 3, 0);
            all[column] = told(3, NONE, column);
        }
        for (int i = 0; i < 80; i++) {
            x.makes("cell", 0, 0, i / 5, i % 5, i);
            all[21 + i] = told(7, i / 5, i % 5);
        }
        for (int row = 0; row < 16; row++) {
            x.makes("move", 0, 0, row, 20 + row);
            all[5 + row] = told(6, row, NONE);
        }
        x.differencesAre(21, x.versions() - 1, all);
        x.differencesAre(x.versions() - 1, 21, all);
    }

    /** COLUMNS 0 to 4, ROWS 0 to 15 with the KEYS 0 to 15; VERSION 21. */
    private static Calls full(String sentence) {
        Calls x = new Calls(DUE, sentence);
        for (int column = 0; column < 5; column++) {
            x.makes("column", 0, 0, 0);
        }
        for (int key = 0; key < 16; key++) {
            x.makes("row", 0, 0, key);
        }
        return x;
    }

    private static void nothingInCommon() {
        Calls x = full("all COLUMNS and ROWS go, as many come");
        int[][] all = new int[42][];
        for (int column = 0; column < 5; column++) {
            x.makes("column", 1, 0, 0);
            all[column] = told(1, NONE, column);
            all[5 + column] = told(2, NONE, 5 + column);
        }
        for (int key = 0; key < 16; key++) {
            x.makes("row", 1, 0, key);
            all[10 + key] = told(4, key, NONE);
            all[26 + key] = told(5, 16 + key, NONE);
        }
        x.differencesAre(21, 42, all);
        x.is(0, "differences", 42, 42);
        x.is(21, "differences", 21, 0);
        x.is(21, "differences", 0, 21);
    }
}
