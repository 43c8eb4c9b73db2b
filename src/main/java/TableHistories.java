import java.util.Arrays;

/** Tables kept in versions: branches, merges cell by cell, clashes, differences, and who made each cell. */
public final class TableHistories {
    public static final int BAD = -1, NO = -2, FULL = -3, NONE = -4;

    private static final int MOST_VERSIONS = 150;
    private static final int MOST_COLUMNS = 5;
    private static final int MOST_ROWS = 16;
    private static final int BRANCHES = 5;
    private static final int WHOS = 10;
    private static final int KEYS = 100;
    private static final int KINDS = 4;
    private static final int RULES = 3;
    private static final int AS_IT_IS = 0;
    private static final int CUT = 1;
    private static final int KEPT = 2;
    private static final long[] LEAST_OF_KIND = {-128L, -32768L, -2147483648L, -9223372036854775808L};
    // no place in a table; unlike NONE it is never an answer
    private static final int NOWHERE = -1;
    // above the 122 that one merge, or one pair of versions, can have at most
    private static final int MOST_FINDINGS = 160;

    private final Version first = new Version(0, NONE, NONE, new Table());
    private final Version[] versions = new Version[MOST_VERSIONS];
    private int versionsMade = 1;
    private int columnsMade = 0;
    private int rowsMade = 0;
    private final int[] branchPlaces = new int[BRANCHES];
    private final int[] marks = new int[MOST_VERSIONS];
    private final Merger merger = new Merger();
    private final Differ differ = new Differ();
    private Findings clashes = new Findings();
    private Findings spare = new Findings();

    public TableHistories() {
        versions[0] = first;
    }

    // ---- changes

    public int row(int branch, int who, int key) {
        if (!isBranch(branch) || !isWho(who) || !isKey(key)) {
            return BAD;
        }
        Table now = tableOn(branch);
        if (now.placeOfKey(key) != NOWHERE) {
            return NO;
        }
        if (isFull() || now.rows.isFull()) {
            return FULL;
        }
        Table next = now.copyWithout(NOWHERE, NOWHERE);
        next.appendRow(rowsMade, key, versionsMade);
        rowsMade++;
        return keepVersion(branch, who, NONE, next);
    }

    public int gone(int branch, int who, int key) {
        if (!isBranch(branch) || !isWho(who) || !isKey(key)) {
            return BAD;
        }
        Table now = tableOn(branch);
        int place = now.placeOfKey(key);
        if (place == NOWHERE) {
            return NO;
        }
        if (isFull()) {
            return FULL;
        }
        return keepVersion(branch, who, NONE, now.copyWithout(place, NOWHERE));
    }

    public int cell(int branch, int who, int key, int column, long v) {
        int answer = askCellChange(branch, who, key, column);
        if (answer < 0) {
            return answer;
        }
        Table now = tableOn(branch);
        if (!fits(v, now.kindAt(now.columns.placeOf(column)))) {
            return BAD;
        }
        return writeCell(branch, who, key, column, true, v);
    }

    public int empty(int branch, int who, int key, int column) {
        int answer = askCellChange(branch, who, key, column);
        if (answer < 0) {
            return answer;
        }
        return writeCell(branch, who, key, column, false, 0L);
    }

    public int column(int branch, int who, int kind) {
        if (!isBranch(branch) || !isWho(who) || !isKind(kind)) {
            return BAD;
        }
        Table now = tableOn(branch);
        if (isFull() || now.columns.isFull()) {
            return FULL;
        }
        Table next = now.copyWithout(NOWHERE, NOWHERE);
        next.appendColumn(columnsMade, kind, AS_IT_IS, versionsMade);
        columnsMade++;
        return keepVersion(branch, who, NONE, next);
    }

    public int drop(int branch, int who, int column) {
        if (!isBranch(branch) || !isWho(who) || !isColumn(column)) {
            return BAD;
        }
        Table now = tableOn(branch);
        int place = now.columns.placeOf(column);
        if (place == NOWHERE) {
            return NO;
        }
        if (isFull()) {
            return FULL;
        }
        return keepVersion(branch, who, NONE, now.copyWithout(NOWHERE, place));
    }

    public int retype(int branch, int who, int column, int kind, int rule) {
        if (!isBranch(branch) || !isWho(who) || !isColumn(column) || !isKind(kind) || !isRule(rule)) {
            return BAD;
        }
        Table now = tableOn(branch);
        int place = now.columns.placeOf(column);
        if (place == NOWHERE || !now.canChangeKind(place, kind, rule)) {
            return NO;
        }
        if (isFull()) {
            return FULL;
        }
        Table next = now.copyWithout(NOWHERE, NOWHERE);
        next.changeKind(place, kind, rule, versionsMade);
        return keepVersion(branch, who, NONE, next);
    }

    public int move(int branch, int who, int key, int to) {
        if (!isBranch(branch) || !isWho(who) || !isKey(key) || !isKey(to)) {
            return BAD;
        }
        Table now = tableOn(branch);
        int place = now.placeOfKey(key);
        if (place == NOWHERE || now.placeOfKey(to) != NOWHERE) {
            return NO;
        }
        if (isFull()) {
            return FULL;
        }
        Table next = now.copyWithout(NOWHERE, NOWHERE);
        next.changeKey(place, to);
        return keepVersion(branch, who, NONE, next);
    }

    // ---- branches

    public int branch(int branch, int version) {
        if (!isBranch(branch) || !isVersion(version)) {
            return BAD;
        }
        int before = branchPlaces[branch];
        branchPlaces[branch] = version;
        return before;
    }

    public int at(int branch) {
        return isBranch(branch) ? branchPlaces[branch] : BAD;
    }

    public int merge(int branch, int other, int who) {
        if (!isBranch(branch) || !isBranch(other) || !isWho(who)) {
            return BAD;
        }
        int a = branchPlaces[branch];
        int b = branchPlaces[other];
        int common = greatestCommon(a, b);
        if (common == b) {
            return NONE;
        }
        if (isFull()) {
            return FULL;
        }
        merger.take(tableOf(a), tableOf(b), tableOf(common));
        merger.findClashes(spare);
        if (spare.size > 0) {
            keepClashes();
            return NO;
        }
        return keepVersion(branch, who, b, merger.makeResult(versionsMade));
    }

    public int clash(int i, int what) {
        return clashes.tell(i, what);
    }

    public int base(int x, int y) {
        if (!isVersion(x) || !isVersion(y)) {
            return BAD;
        }
        return greatestCommon(x, y);
    }

    // ---- what is told

    public int version(int v, int what) {
        if (!isVersion(v)) {
            return BAD;
        }
        Version told = versionAt(v);
        switch (what) {
            case 0: return told.who;
            case 1: return told.parent;
            case 2: return told.secondParent;
            case 3: return told.table.columns.size;
            case 4: return told.table.rows.size;
            default: return BAD;
        }
    }

    public int columnOf(int v, int i, int what) {
        if (!isVersion(v) || i < 0 || what < 0 || what > 2) {
            return BAD;
        }
        Table table = tableOf(v);
        if (!table.columns.holds(i)) {
            return NONE;
        }
        switch (what) {
            case 0: return table.columns.numberAt(i);
            case 1: return table.kindAt(i);
            default: return table.ruleAt(i);
        }
    }

    public int rowOf(int v, int i, int what) {
        if (!isVersion(v) || i < 0 || what < 0 || what > 1) {
            return BAD;
        }
        Table table = tableOf(v);
        if (!table.rows.holds(i)) {
            return NONE;
        }
        return what == 0 ? table.rows.numberAt(i) : table.keyAt(i);
    }

    public int has(int v, int key, int column) {
        int slot = slotOf(v, key, column);
        if (slot < 0) {
            return slot;
        }
        return tableOf(v).isFilled(slot) ? 1 : 0;
    }

    public long value(int v, int key, int column) {
        int slot = slotOf(v, key, column);
        return slot < 0 ? 0L : tableOf(v).cellNumber(slot);
    }

    public int madeBy(int v, int key, int column) {
        int slot = slotOf(v, key, column);
        return slot < 0 ? slot : tableOf(v).cellMaker(slot);
    }

    public int differences(int x, int y) {
        if (!isVersion(x) || !isVersion(y)) {
            return BAD;
        }
        differ.findAll(tableOf(x), tableOf(y), spare);
        return spare.size;
    }

    public int difference(int x, int y, int i, int what) {
        if (!isVersion(x) || !isVersion(y)) {
            return BAD;
        }
        differ.findAll(tableOf(x), tableOf(y), spare);
        return spare.tell(i, what);
    }

    public int count(int what) {
        switch (what) {
            case 0: return versionsMade;
            case 1: return columnsMade;
            case 2: return rowsMade;
            case 3: return clashes.size;
            default: return BAD;
        }
    }

    // ---- what the numbers of a call may be

    private static boolean isBranch(int branch) {
        return branch >= 0 && branch < BRANCHES;
    }

    private static boolean isWho(int who) {
        return who >= 0 && who < WHOS;
    }

    private static boolean isKey(int key) {
        return key >= 0 && key < KEYS;
    }

    private static boolean isKind(int kind) {
        return kind >= 0 && kind < KINDS;
    }

    private static boolean isRule(int rule) {
        return rule >= 0 && rule < RULES;
    }

    private boolean isColumn(int column) {
        return column >= 0 && column < columnsMade;
    }

    private boolean isVersion(int v) {
        return v >= 0 && v < versionsMade;
    }

    // ---- versions

    private boolean isFull() {
        return versionsMade >= MOST_VERSIONS;
    }

    private Version versionAt(int v) {
        Version found = v >= 0 && v < versions.length ? versions[v] : null;
        return found == null ? first : found;
    }

    private Table tableOf(int v) {
        return versionAt(v).table;
    }

    private Table tableOn(int branch) {
        return isBranch(branch) ? tableOf(branchPlaces[branch]) : first.table;
    }

    private int keepVersion(int branch, int who, int secondParent, Table table) {
        if (isFull() || !isBranch(branch)) {
            return FULL;
        }
        int made = versionsMade;
        versions[made] = new Version(who, branchPlaces[branch], secondParent, table);
        versionsMade++;
        branchPlaces[branch] = made;
        return made;
    }

    /** Parents are lesser than their children, so all marks of a version stand when the way down comes to it. */
    private int greatestCommon(int x, int y) {
        Arrays.fill(marks, 0);
        markVersion(x, 1);
        markVersion(y, 2);
        for (int v = Math.min(Math.max(x, y), marks.length - 1); v > 0; v--) {
            if (marks[v] == 3) {
                return v;
            }
            markVersion(versionAt(v).parent, marks[v]);
            markVersion(versionAt(v).secondParent, marks[v]);
        }
        return 0;
    }

    private void markVersion(int v, int mark) {
        if (v >= 0 && v < marks.length) {
            marks[v] |= mark;
        }
    }

    /** The clashes of an earlier merge stay told until a later one has clashes too, hence two lists. */
    private void keepClashes() {
        Findings before = clashes;
        clashes = spare;
        spare = before;
    }

    // ---- cells of a call

    /** BAD, NO, or 0. FULL is left to writeCell: it stands behind the BAD that cell() tells of its number. */
    private int askCellChange(int branch, int who, int key, int column) {
        if (!isBranch(branch) || !isWho(who) || !isKey(key) || !isColumn(column)) {
            return BAD;
        }
        Table now = tableOn(branch);
        return now.slotAt(now.placeOfKey(key), now.columns.placeOf(column)) == NOWHERE ? NO : 0;
    }

    private int writeCell(int branch, int who, int key, int column, boolean filled, long number) {
        if (isFull()) {
            return FULL;
        }
        Table next = tableOn(branch).copyWithout(NOWHERE, NOWHERE);
        int slot = next.slotAt(next.placeOfKey(key), next.columns.placeOf(column));
        next.putCell(slot, filled, number, versionsMade);
        return keepVersion(branch, who, NONE, next);
    }

    /** BAD, NO, or the slot of the cell in the version's table. */
    private int slotOf(int v, int key, int column) {
        if (!isVersion(v) || !isKey(key) || !isColumn(column)) {
            return BAD;
        }
        Table table = tableOf(v);
        int slot = table.slotAt(table.placeOfKey(key), table.columns.placeOf(column));
        return slot == NOWHERE ? NO : slot;
    }

    // ---- kinds and rules

    // the greatest number of a kind has all the bits that its least one has not
    private static boolean fits(long number, int kind) {
        long least = LEAST_OF_KIND[kind & 3];
        return number >= least && number <= ~least;
    }

    private static long convert(long number, int kind, int rule) {
        if (rule == CUT) {
            int highBits = 64 - (8 << (kind & 3));
            return (number << highBits) >> highBits;
        }
        if (rule == KEPT) {
            long least = LEAST_OF_KIND[kind & 3];
            return Math.max(least, Math.min(~least, number));
        }
        return number;
    }

    /** A version is never changed once it is made. */
    private static final class Version {
        private final int who;
        private final int parent;
        private final int secondParent;
        private final Table table;

        Version(int who, int parent, int secondParent, Table table) {
            this.who = who;
            this.parent = parent;
            this.secondParent = secondParent;
            this.table = table;
        }
    }

    /** Numbers of columns or rows in rising order; a place is an index into them. */
    private static final class Roll {
        private final int[] numbers;
        private int size = 0;

        Roll(int most) {
            numbers = new int[Math.max(most, 0)];
        }

        boolean holds(int place) {
            return place >= 0 && place < size && place < numbers.length;
        }

        boolean isFull() {
            return size >= numbers.length;
        }

        int numberAt(int place) {
            return holds(place) ? numbers[place] : NONE;
        }

        int placeOf(int number) {
            for (int place = 0; place < size && place < numbers.length; place++) {
                if (numbers[place] == number) {
                    return place;
                }
            }
            return NOWHERE;
        }

        /** The new place, or NOWHERE. New numbers are greater than all before, so the order stays. */
        int append(int number) {
            if (isFull()) {
                return NOWHERE;
            }
            numbers[size] = number;
            size++;
            return size - 1;
        }
    }

    /** Columns, rows and cells; a slot is a cell's index. */
    private static final class Table {
        private final Roll columns = new Roll(MOST_COLUMNS);
        private final Roll rows = new Roll(MOST_ROWS);
        private final int[] kinds = new int[MOST_COLUMNS];
        private final int[] rules = new int[MOST_COLUMNS];
        private final int[] keys = new int[MOST_ROWS];
        private final boolean[] filled = new boolean[MOST_ROWS * MOST_COLUMNS];
        private final long[] numbers = new long[MOST_ROWS * MOST_COLUMNS];
        private final int[] makers = new int[MOST_ROWS * MOST_COLUMNS];

        int kindAt(int column) {
            return columns.holds(column) && column < kinds.length ? kinds[column] : 0;
        }

        int ruleAt(int column) {
            return columns.holds(column) && column < rules.length ? rules[column] : AS_IT_IS;
        }

        int keyAt(int row) {
            return rows.holds(row) && row < keys.length ? keys[row] : NONE;
        }

        int placeOfKey(int key) {
            for (int row = 0; row < rows.size && row < keys.length; row++) {
                if (keys[row] == key) {
                    return row;
                }
            }
            return NOWHERE;
        }

        int slotAt(int row, int column) {
            boolean there = row >= 0 && row < rows.size && column >= 0 && column < columns.size;
            return there ? row * MOST_COLUMNS + column : NOWHERE;
        }

        boolean isFilled(int slot) {
            return slot >= 0 && slot < filled.length && filled[slot];
        }

        long cellNumber(int slot) {
            return slot >= 0 && slot < numbers.length ? numbers[slot] : 0L;
        }

        int cellMaker(int slot) {
            return slot >= 0 && slot < makers.length ? makers[slot] : NONE;
        }

        /** An empty cell's number is 0, so that empty cells are alike and tell 0. */
        void putCell(int slot, boolean isNumber, long number, int maker) {
            if (slot >= 0 && slot < MOST_ROWS * MOST_COLUMNS) {
                filled[slot] = isNumber;
                numbers[slot] = isNumber ? number : 0L;
                makers[slot] = maker;
            }
        }

        void appendColumn(int number, int kind, int rule, int maker) {
            int column = columns.append(number);
            if (column < 0 || column >= kinds.length || column >= rules.length) {
                return;
            }
            kinds[column] = kind;
            rules[column] = rule;
            for (int row = 0; row < rows.size; row++) {
                putCell(slotAt(row, column), false, 0L, maker);
            }
        }

        void appendRow(int number, int key, int maker) {
            int row = rows.append(number);
            if (row < 0 || row >= keys.length) {
                return;
            }
            keys[row] = key;
            for (int column = 0; column < columns.size; column++) {
                putCell(slotAt(row, column), false, 0L, maker);
            }
        }

        void changeKey(int row, int key) {
            if (rows.holds(row) && row < keys.length) {
                keys[row] = key;
            }
        }

        /** A copy, less the row and the column at these places, of which NOWHERE is none. */
        Table copyWithout(int goneRow, int goneColumn) {
            Table copy = new Table();
            for (int column = 0; column < columns.size; column++) {
                if (column != goneColumn) {
                    copy.appendColumn(columns.numberAt(column), kindAt(column), ruleAt(column), 0);
                }
            }
            for (int row = 0; row < rows.size; row++) {
                if (row != goneRow) {
                    copy.appendRow(rows.numberAt(row), keyAt(row), 0);
                    copyCells(row, copy, goneColumn);
                }
            }
            return copy;
        }

        private void copyCells(int row, Table copy, int goneColumn) {
            int to = 0;
            for (int column = 0; column < columns.size; column++) {
                if (column != goneColumn) {
                    int slot = slotAt(row, column);
                    int slotInCopy = copy.slotAt(copy.rows.size - 1, to);
                    copy.putCell(slotInCopy, isFilled(slot), cellNumber(slot), cellMaker(slot));
                    to++;
                }
            }
        }

        boolean canChangeKind(int column, int kind, int rule) {
            for (int row = 0; row < rows.size; row++) {
                int slot = slotAt(row, column);
                if (isFilled(slot) && rule == AS_IT_IS && !fits(cellNumber(slot), kind)) {
                    return false;
                }
            }
            return true;
        }

        void changeKind(int column, int kind, int rule, int maker) {
            if (!columns.holds(column) || column >= kinds.length || column >= rules.length) {
                return;
            }
            kinds[column] = kind;
            rules[column] = rule;
            for (int row = 0; row < rows.size; row++) {
                int slot = slotAt(row, column);
                long number = cellNumber(slot);
                long after = convert(number, kind, rule);
                if (isFilled(slot) && after != number) {
                    putCell(slot, true, after, maker);
                }
            }
        }
    }

    /** A cell as a merge or a comparison sees it; read anew for each look, so that none is made for it. */
    private static final class Cell {
        private boolean there = false;
        private boolean filled = false;
        private boolean stuck = false;
        private long number = 0L;
        private int maker = NONE;

        void read(Table table, int row, int column) {
            int slot = table.slotAt(row, column);
            there = slot != NOWHERE;
            stuck = false;
            filled = table.isFilled(slot);
            number = table.cellNumber(slot);
            maker = table.cellMaker(slot);
        }

        void convertTo(int kind, int rule) {
            stuck = filled && rule == AS_IT_IS && !fits(number, kind);
            if (filled && !stuck) {
                number = convert(number, kind, rule);
            }
        }

        boolean isLike(Cell other) {
            return filled == other.filled && number == other.number;
        }
    }

    /** The numbers that two rolls have, rising, with the place of each in both rolls and in that of the base. */
    private static final class Matching {
        private final int[] numbers;
        private final int[] placesA;
        private final int[] placesB;
        private final int[] basePlaces;
        private int size = 0;

        Matching(int most) {
            int length = Math.max(most, 0);
            numbers = new int[length];
            placesA = new int[length];
            placesB = new int[length];
            basePlaces = new int[length];
        }

        void match(Roll a, Roll b, Roll base) {
            int nextA = 0;
            int nextB = 0;
            size = 0;
            for (int k = 0; k < numbers.length && (a.holds(nextA) || b.holds(nextB)); k++) {
                boolean fromA = a.holds(nextA) && (!b.holds(nextB) || a.numberAt(nextA) <= b.numberAt(nextB));
                boolean fromB = b.holds(nextB) && (!a.holds(nextA) || b.numberAt(nextB) <= a.numberAt(nextA));
                numbers[k] = fromA ? a.numberAt(nextA) : b.numberAt(nextB);
                placesA[k] = fromA ? nextA : NOWHERE;
                placesB[k] = fromB ? nextB : NOWHERE;
                basePlaces[k] = base.placeOf(numbers[k]);
                nextA += fromA ? 1 : 0;
                nextB += fromB ? 1 : 0;
                size = k + 1;
            }
        }

        int numberAt(int k) {
            return k >= 0 && k < numbers.length ? numbers[k] : NONE;
        }

        int placeInA(int k) {
            return k >= 0 && k < placesA.length ? placesA[k] : NOWHERE;
        }

        int placeInB(int k) {
            return k >= 0 && k < placesB.length ? placesB[k] : NOWHERE;
        }

        int placeInBase(int k) {
            return k >= 0 && k < basePlaces.length ? basePlaces[k] : NOWHERE;
        }

        boolean isInA(int k) {
            return placeInA(k) != NOWHERE;
        }

        boolean isInB(int k) {
            return placeInB(k) != NOWHERE;
        }

        boolean isInBase(int k) {
            return placeInBase(k) != NOWHERE;
        }

        boolean isInBoth(int k) {
            return placeInA(k) != NOWHERE && placeInB(k) != NOWHERE;
        }

        /** Gone in one of the two: it was in the base and is in the other alone. */
        boolean isGoneInOne(int k) {
            return isInBase(k) && !isInBoth(k);
        }

        int keptSize() {
            int kept = 0;
            for (int k = 0; k < size; k++) {
                kept += isGoneInOne(k) ? 0 : 1;
            }
            return kept;
        }
    }

    /** Clashes, or differences, in their order: a sort, a row's number, a column's number. */
    private static final class Findings {
        private final int[] sorts = new int[MOST_FINDINGS];
        private final int[] rowNumbers = new int[MOST_FINDINGS];
        private final int[] columnNumbers = new int[MOST_FINDINGS];
        private int size = 0;

        void clear() {
            size = 0;
        }

        void add(int sort, int rowNumber, int columnNumber) {
            if (size < MOST_FINDINGS) {
                sorts[size] = sort;
                rowNumbers[size] = rowNumber;
                columnNumbers[size] = columnNumber;
                size++;
            }
        }

        int tell(int i, int what) {
            if (i < 0 || what < 0 || what > 2) {
                return BAD;
            }
            if (i >= size || i >= MOST_FINDINGS) {
                return NONE;
            }
            switch (what) {
                case 0: return sorts[i];
                case 1: return rowNumbers[i];
                default: return columnNumbers[i];
            }
        }
    }

    /** Merges the table b into a: looks for the clashes first, then makes the result. */
    private static final class Merger {
        private final Matching columns = new Matching(2 * MOST_COLUMNS);
        private final Matching rows = new Matching(2 * MOST_ROWS);
        // columns with a clash of their own, in which no other clash is looked for
        private final boolean[] clashing = new boolean[2 * MOST_COLUMNS];
        private final int[] resultKinds = new int[2 * MOST_COLUMNS];
        private final int[] resultRules = new int[2 * MOST_COLUMNS];
        private final int[] resultKeys = new int[2 * MOST_ROWS];
        private final Cell cellA = new Cell();
        private final Cell cellB = new Cell();
        private final Cell baseCell = new Cell();
        private Table a;
        private Table b;
        private Table base;

        Merger() {
            a = new Table();
            b = a;
            base = a;
        }

        void take(Table intoTable, Table otherTable, Table baseTable) {
            a = intoTable;
            b = otherTable;
            base = baseTable;
            columns.match(a.columns, b.columns, base.columns);
            rows.match(a.rows, b.rows, base.rows);
            for (int c = 0; c < columns.size && c < clashing.length; c++) {
                clashing[c] = false;
                chooseKind(c);
            }
            for (int r = 0; r < rows.size; r++) {
                chooseKey(r);
            }
        }

        private void chooseKind(int c) {
            if (c < 0 || c >= resultKinds.length || c >= resultRules.length) {
                return;
            }
            boolean isOfB = !columns.isInA(c) || columns.isInB(c) && isKindChangedInB(c) && !isKindChangedInA(c);
            Table from = isOfB ? b : a;
            int place = isOfB ? columns.placeInB(c) : columns.placeInA(c);
            resultKinds[c] = from.kindAt(place);
            resultRules[c] = from.ruleAt(place);
        }

        private void chooseKey(int r) {
            if (r < 0 || r >= resultKeys.length) {
                return;
            }
            boolean isOfB = !rows.isInA(r) || rows.isInB(r) && isKeyChangedInB(r) && !isKeyChangedInA(r);
            resultKeys[r] = isOfB ? b.keyAt(rows.placeInB(r)) : a.keyAt(rows.placeInA(r));
        }

        void findClashes(Findings found) {
            found.clear();
            findColumnClashes(found);
            findKindClashes(found);
            findRuleClashes(found);
            findRowClashes(found);
            findKeyClashes(found);
            findCellClashes(found);
            if (found.size == 0) {
                findSameKeys(found);
                findSize(found);
            }
        }

        private void findColumnClashes(Findings found) {
            for (int c = 0; c < columns.size && c < clashing.length; c++) {
                if (columns.isGoneInOne(c) && isLeftColumnChanged(c)) {
                    clashing[c] = true;
                    found.add(1, NONE, columns.numberAt(c));
                }
            }
        }

        private boolean isLeftColumnChanged(int c) {
            boolean inA = columns.isInA(c);
            if (inA ? isKindChangedInA(c) : isKindChangedInB(c)) {
                return true;
            }
            Cell left = inA ? cellA : cellB;
            for (int r = 0; r < rows.size; r++) {
                readCells(r, c);
                if (left.there && baseCell.there && !left.isLike(baseCell)) {
                    return true;
                }
            }
            return false;
        }

        private void findKindClashes(Findings found) {
            for (int c = 0; c < columns.size && c < clashing.length; c++) {
                if (columns.isInBoth(c) && isKindChangedInA(c) && isKindChangedInB(c) && !areKindsAlike(c)) {
                    clashing[c] = true;
                    found.add(2, NONE, columns.numberAt(c));
                }
            }
        }

        private void findRuleClashes(Findings found) {
            for (int r = 0; r < rows.size; r++) {
                for (int c = 0; c < columns.size && !rows.isGoneInOne(r); c++) {
                    if (isOpenColumn(c)) {
                        readCells(r, c);
                        addIf(cellA.stuck || cellB.stuck, found, 3, r, c);
                    }
                }
            }
        }

        private void findRowClashes(Findings found) {
            for (int r = 0; r < rows.size; r++) {
                if (rows.isGoneInOne(r) && isLeftRowChanged(r)) {
                    found.add(4, rows.numberAt(r), NONE);
                }
            }
        }

        private boolean isLeftRowChanged(int r) {
            boolean inA = rows.isInA(r);
            if (inA ? isKeyChangedInA(r) : isKeyChangedInB(r)) {
                return true;
            }
            Cell left = inA ? cellA : cellB;
            for (int c = 0; c < columns.size; c++) {
                if (isOpenColumn(c)) {
                    readCells(r, c);
                    if (isChanged(left)) {
                        return true;
                    }
                }
            }
            return false;
        }

        private void findKeyClashes(Findings found) {
            for (int r = 0; r < rows.size; r++) {
                boolean unlike = a.keyAt(rows.placeInA(r)) != b.keyAt(rows.placeInB(r));
                if (rows.isInBoth(r) && isKeyChangedInA(r) && isKeyChangedInB(r) && unlike) {
                    found.add(5, rows.numberAt(r), NONE);
                }
            }
        }

        private void findCellClashes(Findings found) {
            for (int r = 0; r < rows.size; r++) {
                for (int c = 0; c < columns.size && rows.isInBoth(r); c++) {
                    if (isOpenColumn(c)) {
                        readCells(r, c);
                        boolean stuck = cellA.stuck || cellB.stuck;
                        boolean unlike = isChanged(cellA) && isChanged(cellB) && !cellA.isLike(cellB);
                        addIf(unlike && !stuck, found, 6, r, c);
                    }
                }
            }
        }

        private void addIf(boolean isSo, Findings found, int sort, int r, int c) {
            if (isSo) {
                found.add(sort, rows.numberAt(r), columns.numberAt(c));
            }
        }

        private void findSameKeys(Findings found) {
            for (int r = 0; r < rows.size; r++) {
                if (!rows.isGoneInOne(r) && hasLesserRowWithKey(r)) {
                    found.add(7, rows.numberAt(r), NONE);
                }
            }
        }

        private boolean hasLesserRowWithKey(int r) {
            for (int lesser = 0; lesser < r; lesser++) {
                if (!rows.isGoneInOne(lesser) && resultKey(lesser) == resultKey(r)) {
                    return true;
                }
            }
            return false;
        }

        private void findSize(Findings found) {
            if (columns.keptSize() > MOST_COLUMNS || rows.keptSize() > MOST_ROWS) {
                found.add(8, NONE, NONE);
            }
        }

        /** A column in which the clashes 3, 4 and 6 are looked for. */
        private boolean isOpenColumn(int c) {
            return columns.isInBoth(c) && c >= 0 && c < clashing.length && !clashing[c];
        }

        private boolean isKindChangedInA(int c) {
            return isKindChanged(a, columns.placeInA(c), columns.placeInBase(c));
        }

        private boolean isKindChangedInB(int c) {
            return isKindChanged(b, columns.placeInB(c), columns.placeInBase(c));
        }

        private boolean isKindChanged(Table side, int place, int basePlace) {
            return basePlace == NOWHERE || side.kindAt(place) != base.kindAt(basePlace)
                || side.ruleAt(place) != base.ruleAt(basePlace);
        }

        private boolean areKindsAlike(int c) {
            int placeA = columns.placeInA(c);
            int placeB = columns.placeInB(c);
            return a.kindAt(placeA) == b.kindAt(placeB) && a.ruleAt(placeA) == b.ruleAt(placeB);
        }

        private boolean isKeyChangedInA(int r) {
            return !rows.isInBase(r) || a.keyAt(rows.placeInA(r)) != base.keyAt(rows.placeInBase(r));
        }

        private boolean isKeyChangedInB(int r) {
            return !rows.isInBase(r) || b.keyAt(rows.placeInB(r)) != base.keyAt(rows.placeInBase(r));
        }

        private int resultKind(int c) {
            return c >= 0 && c < resultKinds.length ? resultKinds[c] : 0;
        }

        private int resultRule(int c) {
            return c >= 0 && c < resultRules.length ? resultRules[c] : AS_IT_IS;
        }

        private int resultKey(int r) {
            return r >= 0 && r < resultKeys.length ? resultKeys[r] : NONE;
        }

        /** Cells that are of the result's kind already come out as they were, so all three are converted alike. */
        private void readCells(int r, int c) {
            int kind = resultKind(c);
            int rule = resultRule(c);
            cellA.read(a, rows.placeInA(r), columns.placeInA(c));
            cellB.read(b, rows.placeInB(r), columns.placeInB(c));
            baseCell.read(base, rows.placeInBase(r), columns.placeInBase(c));
            cellA.convertTo(kind, rule);
            cellB.convertTo(kind, rule);
            baseCell.convertTo(kind, rule);
        }

        private boolean isChanged(Cell side) {
            return !baseCell.there || baseCell.stuck || side.stuck || !side.isLike(baseCell);
        }

        /** Only when no clash was found: the result is within its size then, and all cells can be converted. */
        Table makeResult(int maker) {
            Table result = new Table();
            for (int c = 0; c < columns.size; c++) {
                if (!columns.isGoneInOne(c)) {
                    result.appendColumn(columns.numberAt(c), resultKind(c), resultRule(c), maker);
                }
            }
            for (int r = 0; r < rows.size; r++) {
                if (!rows.isGoneInOne(r)) {
                    result.appendRow(rows.numberAt(r), resultKey(r), maker);
                    putCells(result, r);
                }
            }
            return result;
        }

        private void putCells(Table result, int r) {
            int column = 0;
            for (int c = 0; c < columns.size; c++) {
                if (!columns.isGoneInOne(c)) {
                    readCells(r, c);
                    putMerged(result, result.slotAt(result.rows.size - 1, column));
                    column++;
                }
            }
        }

        /** A cell that is in neither stays as its row came: empty, made by the new version. */
        private void putMerged(Table result, int slot) {
            if (!cellA.there && !cellB.there) {
                return;
            }
            boolean both = cellA.there && cellB.there;
            boolean changedInA = isChanged(cellA);
            boolean changedInB = isChanged(cellB);
            boolean isOfB = !cellA.there || both && changedInB && !changedInA;
            Cell from = isOfB ? cellB : cellA;
            boolean alike = both && changedInA && changedInB;
            int maker = alike ? Math.min(cellA.maker, cellB.maker) : from.maker;
            result.putCell(slot, from.filled, from.number, maker);
        }
    }

    /** Finds the differences from one table to another. */
    private static final class Differ {
        private final Matching columns = new Matching(2 * MOST_COLUMNS);
        private final Matching rows = new Matching(2 * MOST_ROWS);
        private final Cell before = new Cell();
        private final Cell after = new Cell();

        void findAll(Table x, Table y, Findings found) {
            found.clear();
            columns.match(x.columns, y.columns, x.columns);
            rows.match(x.rows, y.rows, x.rows);
            findColumns(found);
            findKinds(x, y, found);
            findRows(found);
            findKeys(x, y, found);
            findCells(x, y, found);
        }

        private void findColumns(Findings found) {
            for (int c = 0; c < columns.size; c++) {
                if (!columns.isInB(c)) {
                    found.add(1, NONE, columns.numberAt(c));
                }
            }
            for (int c = 0; c < columns.size; c++) {
                if (!columns.isInA(c)) {
                    found.add(2, NONE, columns.numberAt(c));
                }
            }
        }

        private void findKinds(Table x, Table y, Findings found) {
            for (int c = 0; c < columns.size; c++) {
                int inX = columns.placeInA(c);
                int inY = columns.placeInB(c);
                boolean unlike = x.kindAt(inX) != y.kindAt(inY) || x.ruleAt(inX) != y.ruleAt(inY);
                if (columns.isInBoth(c) && unlike) {
                    found.add(3, NONE, columns.numberAt(c));
                }
            }
        }

        private void findRows(Findings found) {
            for (int r = 0; r < rows.size; r++) {
                if (!rows.isInB(r)) {
                    found.add(4, rows.numberAt(r), NONE);
                }
            }
            for (int r = 0; r < rows.size; r++) {
                if (!rows.isInA(r)) {
                    found.add(5, rows.numberAt(r), NONE);
                }
            }
        }

        private void findKeys(Table x, Table y, Findings found) {
            for (int r = 0; r < rows.size; r++) {
                if (rows.isInBoth(r) && x.keyAt(rows.placeInA(r)) != y.keyAt(rows.placeInB(r))) {
                    found.add(6, rows.numberAt(r), NONE);
                }
            }
        }

        private void findCells(Table x, Table y, Findings found) {
            for (int r = 0; r < rows.size; r++) {
                for (int c = 0; c < columns.size; c++) {
                    before.read(x, rows.placeInA(r), columns.placeInA(c));
                    after.read(y, rows.placeInB(r), columns.placeInB(c));
                    if (before.there && after.there && !before.isLike(after)) {
                        found.add(7, rows.numberAt(r), columns.numberAt(c));
                    }
                }
            }
        }
    }
}
