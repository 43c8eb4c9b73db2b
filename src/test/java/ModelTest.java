import java.util.ArrayList;
import java.util.HashMap;
import java.util.List;
import java.util.Map;
import java.util.Random;
import java.util.TreeMap;
import java.util.TreeSet;

/** Chance runs, the same ones each time, against a second writing of the document that is slow and plain. */
public final class ModelTest {
    private static final int BAD = -1, NO = -2, FULL = -3, NONE = -4;
    private static final int RUNS = 1500;
    /** The document promises nothing of an object beyond these. */
    private static final int MOST_CALLS = 512;
    private static final long[] NUMBERS = {0, 1, -1, 5, 100, 127, 128, -128, -129, 255, 256, 1000, 32767, 32768, -32768,
        -32769, 65536, 70000, -70000, 2147483647L, 2147483648L, -2147483648L, -2147483649L, 4294967296L + 7,
        Long.MAX_VALUE, Long.MIN_VALUE};

    private static final class Kind {
        final int kind;
        final int rule;

        Kind(int kind, int rule) {
            this.kind = kind;
            this.rule = rule;
        }

        boolean like(Kind other) {
            return kind == other.kind && rule == other.rule;
        }
    }

    /** number null: EMPTY. */
    private static final class Box {
        final Long number;
        final int maker;

        Box(Long number, int maker) {
            this.number = number;
            this.maker = maker;
        }

        boolean like(Box other) {
            return number == null ? other.number == null : number.equals(other.number);
        }
    }

    private static final class Sheet {
        final TreeMap<Integer, Kind> columns = new TreeMap<>();
        final TreeMap<Integer, Integer> keys = new TreeMap<>();
        final Map<Integer, Box> boxes = new HashMap<>();
        int who = 0;
        int parent = NONE;
        int second = NONE;

        Sheet copy() {
            Sheet made = new Sheet();
            made.columns.putAll(columns);
            made.keys.putAll(keys);
            made.boxes.putAll(boxes);
            return made;
        }

        Box box(int r, int c) {
            return boxes.get(r * 1000 + c);
        }

        void put(int r, int c, Box box) {
            boxes.put(r * 1000 + c, box);
        }

        int rowWith(int key) {
            for (Map.Entry<Integer, Integer> row : keys.entrySet()) {
                if (row.getValue() == key) {
                    return row.getKey();
                }
            }
            return -1;
        }

        boolean holds(int r, int c) {
            return keys.containsKey(r) && columns.containsKey(c);
        }
    }

    private static boolean fits(long v, int kind) {
        switch (kind) {
            case 0: return v == (byte) v;
            case 1: return v == (short) v;
            case 2: return v == (int) v;
            default: return true;
        }
    }

    /** null: it can not be. */
    private static Long converted(long v, Kind to) {
        if (fits(v, to.kind)) {
            return v;
        }
        if (to.rule == 0) {
            return null;
        }
        boolean cut = to.rule == 1;
        switch (to.kind) {
            case 0: return cut ? (byte) v : v < 0 ? (long) Byte.MIN_VALUE : Byte.MAX_VALUE;
            case 1: return cut ? (short) v : v < 0 ? (long) Short.MIN_VALUE : Short.MAX_VALUE;
            default: return cut ? (int) v : v < 0 ? (long) Integer.MIN_VALUE : Integer.MAX_VALUE;
        }
    }

    private static final class Model {
        final List<Sheet> versions = new ArrayList<>();
        final int[] at = new int[5];
        int columnsEver = 0;
        int rowsEver = 0;
        List<int[]> clashes = new ArrayList<>();

        Model() {
            versions.add(new Sheet());
        }

        Sheet on(int branch) {
            return versions.get(at[branch]);
        }

        boolean badStart(int branch, int who) {
            return branch < 0 || branch > 4 || who < 0 || who > 9;
        }

        boolean badKey(int key) {
            return key < 0 || key > 99;
        }

        boolean badColumn(int column) {
            return column < 0 || column >= columnsEver;
        }

        boolean badVersion(int v) {
            return v < 0 || v >= versions.size();
        }

        boolean full() {
            return versions.size() == 150;
        }

        int land(int branch, int who, int second, Sheet sheet) {
            sheet.who = who;
            sheet.parent = at[branch];
            sheet.second = second;
            versions.add(sheet);
            at[branch] = versions.size() - 1;
            return at[branch];
        }

        int row(int branch, int who, int key) {
            if (badStart(branch, who) || badKey(key)) {
                return BAD;
            }
            Sheet now = on(branch);
            if (now.rowWith(key) >= 0) {
                return NO;
            }
            if (full() || now.keys.size() == 16) {
                return FULL;
            }
            Sheet next = now.copy();
            next.keys.put(rowsEver, key);
            for (int c : next.columns.keySet()) {
                next.put(rowsEver, c, new Box(null, versions.size()));
            }
            rowsEver++;
            return land(branch, who, NONE, next);
        }

        int gone(int branch, int who, int key) {
            if (badStart(branch, who) || badKey(key)) {
                return BAD;
            }
            int r = on(branch).rowWith(key);
            if (r < 0) {
                return NO;
            }
            if (full()) {
                return FULL;
            }
            Sheet next = on(branch).copy();
            next.keys.remove(r);
            return land(branch, who, NONE, next);
        }

        int write(int branch, int who, int key, int column, Long v) {
            if (badStart(branch, who) || badKey(key) || badColumn(column)) {
                return BAD;
            }
            Sheet now = on(branch);
            int r = now.rowWith(key);
            if (r < 0 || !now.columns.containsKey(column)) {
                return NO;
            }
            if (v != null && !fits(v, now.columns.get(column).kind)) {
                return BAD;
            }
            if (full()) {
                return FULL;
            }
            Sheet next = now.copy();
            next.put(r, column, new Box(v, versions.size()));
            return land(branch, who, NONE, next);
        }

        int column(int branch, int who, int kind) {
            if (badStart(branch, who) || kind < 0 || kind > 3) {
                return BAD;
            }
            if (full() || on(branch).columns.size() == 5) {
                return FULL;
            }
            Sheet next = on(branch).copy();
            next.columns.put(columnsEver, new Kind(kind, 0));
            for (int r : next.keys.keySet()) {
                next.put(r, columnsEver, new Box(null, versions.size()));
            }
            columnsEver++;
            return land(branch, who, NONE, next);
        }

        int drop(int branch, int who, int column) {
            if (badStart(branch, who) || badColumn(column)) {
                return BAD;
            }
            if (!on(branch).columns.containsKey(column)) {
                return NO;
            }
            if (full()) {
                return FULL;
            }
            Sheet next = on(branch).copy();
            next.columns.remove(column);
            return land(branch, who, NONE, next);
        }

        int retype(int branch, int who, int column, int kind, int rule) {
            if (badStart(branch, who) || badColumn(column) || kind < 0 || kind > 3 || rule < 0 || rule > 2) {
                return BAD;
            }
            Sheet now = on(branch);
            if (!now.columns.containsKey(column)) {
                return NO;
            }
            Kind to = new Kind(kind, rule);
            Sheet next = now.copy();
            next.columns.put(column, to);
            for (int r : now.keys.keySet()) {
                Long v = now.box(r, column).number;
                Long w = v == null ? null : converted(v, to);
                if (v != null && w == null) {
                    return NO;
                }
                if (v != null && !v.equals(w)) {
                    next.put(r, column, new Box(w, versions.size()));
                }
            }
            return full() ? FULL : land(branch, who, NONE, next);
        }

        int move(int branch, int who, int key, int to) {
            if (badStart(branch, who) || badKey(key) || badKey(to)) {
                return BAD;
            }
            int r = on(branch).rowWith(key);
            if (r < 0 || on(branch).rowWith(to) >= 0) {
                return NO;
            }
            if (full()) {
                return FULL;
            }
            Sheet next = on(branch).copy();
            next.keys.put(r, to);
            return land(branch, who, NONE, next);
        }

        int branch(int branch, int version) {
            if (branch < 0 || branch > 4 || badVersion(version)) {
                return BAD;
            }
            int was = at[branch];
            at[branch] = version;
            return was;
        }

        TreeSet<Integer> ahead(int v) {
            TreeSet<Integer> all = new TreeSet<>();
            all.add(v);
            Sheet sheet = versions.get(v);
            if (sheet.parent != NONE) {
                all.addAll(ahead(sheet.parent));
            }
            if (sheet.second != NONE) {
                all.addAll(ahead(sheet.second));
            }
            return all;
        }

        int base(int x, int y) {
            if (badVersion(x) || badVersion(y)) {
                return BAD;
            }
            TreeSet<Integer> both = aheadFast(x);
            both.retainAll(aheadFast(y));
            return both.last();
        }

        /** As ahead(), which takes too long where many merges stand behind one another. */
        TreeSet<Integer> aheadFast(int v) {
            if (v < 12) {
                return ahead(v);
            }
            TreeSet<Integer> all = new TreeSet<>();
            ArrayList<Integer> open = new ArrayList<>(List.of(v));
            while (!open.isEmpty()) {
                int one = open.remove(open.size() - 1);
                if (one != NONE && all.add(one)) {
                    open.add(versions.get(one).parent);
                    open.add(versions.get(one).second);
                }
            }
            return all;
        }

        int merge(int branch, int other, int who) {
            if (badStart(branch, who) || badStart(other, who)) {
                return BAD;
            }
            int common = base(at[branch], at[other]);
            if (common == at[other]) {
                return NONE;
            }
            if (full()) {
                return FULL;
            }
            Join join = new Join(on(branch), on(other), versions.get(common));
            List<int[]> found = join.clashes();
            if (!found.isEmpty()) {
                clashes = found;
                return NO;
            }
            return land(branch, who, at[other], join.result(versions.size()));
        }

        List<int[]> differences(Sheet x, Sheet y) {
            List<int[]> all = new ArrayList<>();
            TreeSet<Integer> cs = new TreeSet<>(x.columns.keySet());
            cs.addAll(y.columns.keySet());
            TreeSet<Integer> rs = new TreeSet<>(x.keys.keySet());
            rs.addAll(y.keys.keySet());
            for (int sort = 1; sort <= 3; sort++) {
                for (int c : cs) {
                    boolean inX = x.columns.containsKey(c);
                    boolean inY = y.columns.containsKey(c);
                    if (sort == 1 && !inY || sort == 2 && !inX
                        || sort == 3 && inX && inY && !x.columns.get(c).like(y.columns.get(c))) {
                        all.add(new int[] {sort, NONE, c});
                    }
                }
            }
            for (int sort = 4; sort <= 6; sort++) {
                for (int r : rs) {
                    boolean inX = x.keys.containsKey(r);
                    boolean inY = y.keys.containsKey(r);
                    if (sort == 4 && !inY || sort == 5 && !inX
                        || sort == 6 && inX && inY && !x.keys.get(r).equals(y.keys.get(r))) {
                        all.add(new int[] {sort, r, NONE});
                    }
                }
            }
            for (int r : rs) {
                for (int c : cs) {
                    if (x.holds(r, c) && y.holds(r, c) && !x.box(r, c).like(y.box(r, c))) {
                        all.add(new int[] {7, r, c});
                    }
                }
            }
            return all;
        }
    }

    /** The document's third part, clause by clause. */
    private static final class Join {
        final Sheet a;
        final Sheet b;
        final Sheet base;
        final TreeSet<Integer> cs = new TreeSet<>();
        final TreeSet<Integer> rs = new TreeSet<>();
        final TreeSet<Integer> shut = new TreeSet<>();

        Join(Sheet a, Sheet b, Sheet base) {
            this.a = a;
            this.b = b;
            this.base = base;
            cs.addAll(a.columns.keySet());
            cs.addAll(b.columns.keySet());
            rs.addAll(a.keys.keySet());
            rs.addAll(b.keys.keySet());
        }

        boolean columnInBoth(int c) {
            return a.columns.containsKey(c) && b.columns.containsKey(c);
        }

        boolean rowInBoth(int r) {
            return a.keys.containsKey(r) && b.keys.containsKey(r);
        }

        boolean columnStays(int c) {
            return columnInBoth(c) || !base.columns.containsKey(c);
        }

        boolean rowStays(int r) {
            return rowInBoth(r) || !base.keys.containsKey(r);
        }

        boolean kindChanged(Sheet side, int c) {
            return !base.columns.containsKey(c) || !side.columns.get(c).like(base.columns.get(c));
        }

        boolean keyChanged(Sheet side, int r) {
            return !base.keys.containsKey(r) || !side.keys.get(r).equals(base.keys.get(r));
        }

        Kind kind(int c) {
            if (!columnInBoth(c)) {
                return a.columns.containsKey(c) ? a.columns.get(c) : b.columns.get(c);
            }
            return !kindChanged(a, c) && kindChanged(b, c) ? b.columns.get(c) : a.columns.get(c);
        }

        int key(int r) {
            if (!rowInBoth(r)) {
                return a.keys.containsKey(r) ? a.keys.get(r) : b.keys.get(r);
            }
            return !keyChanged(a, r) && keyChanged(b, r) ? b.keys.get(r) : a.keys.get(r);
        }

        /** The cell of a side as the merge sees it, null if it can not be converted. */
        Box seen(Sheet side, int r, int c) {
            Box box = side.box(r, c);
            boolean turn = columnInBoth(c) && (side == base ? kindChanged(a, c) || kindChanged(b, c)
                : !kindChanged(side, c) && kindChanged(side == a ? b : a, c));
            if (!turn || box.number == null) {
                return box;
            }
            Long v = converted(box.number, kind(c));
            return v == null ? null : new Box(v, box.maker);
        }

        boolean cellChanged(Sheet side, int r, int c) {
            if (!base.holds(r, c)) {
                return true;
            }
            Box was = seen(base, r, c);
            Box is = seen(side, r, c);
            return was == null || is == null || !is.like(was);
        }

        List<int[]> clashes() {
            List<int[]> all = new ArrayList<>();
            for (int c : cs) {
                if (!columnStays(c) && columnClash(c)) {
                    all.add(new int[] {1, NONE, c});
                    shut.add(c);
                }
            }
            for (int c : cs) {
                if (columnInBoth(c) && kindChanged(a, c) && kindChanged(b, c)
                    && !a.columns.get(c).like(b.columns.get(c))) {
                    all.add(new int[] {2, NONE, c});
                    shut.add(c);
                }
            }
            for (int r : rs) {
                for (int c : cs) {
                    if (ruleClash(r, c)) {
                        all.add(new int[] {3, r, c});
                    }
                }
            }
            for (int r : rs) {
                if (!rowStays(r) && rowClash(r)) {
                    all.add(new int[] {4, r, NONE});
                }
            }
            for (int r : rs) {
                if (rowInBoth(r) && keyChanged(a, r) && keyChanged(b, r) && !a.keys.get(r).equals(b.keys.get(r))) {
                    all.add(new int[] {5, r, NONE});
                }
            }
            for (int r : rs) {
                for (int c : cs) {
                    if (rowInBoth(r) && open(c) && !ruleClash(r, c) && cellChanged(a, r, c) && cellChanged(b, r, c)
                        && !seen(a, r, c).like(seen(b, r, c))) {
                        all.add(new int[] {6, r, c});
                    }
                }
            }
            if (all.isEmpty()) {
                addLast(all);
            }
            return all;
        }

        boolean open(int c) {
            return columnInBoth(c) && !shut.contains(c);
        }

        boolean columnClash(int c) {
            Sheet side = a.columns.containsKey(c) ? a : b;
            if (kindChanged(side, c)) {
                return true;
            }
            for (int r : base.keys.keySet()) {
                if (side.holds(r, c) && !side.box(r, c).like(base.box(r, c))) {
                    return true;
                }
            }
            return false;
        }

        boolean ruleClash(int r, int c) {
            if (!open(c) || !rowStays(r)) {
                return false;
            }
            return a.holds(r, c) && seen(a, r, c) == null || b.holds(r, c) && seen(b, r, c) == null;
        }

        boolean rowClash(int r) {
            Sheet side = a.keys.containsKey(r) ? a : b;
            boolean found = keyChanged(side, r);
            for (int c : cs) {
                found = found || open(c) && cellChanged(side, r, c);
            }
            return found;
        }

        void addLast(List<int[]> all) {
            TreeSet<Integer> keys = new TreeSet<>();
            int rows = 0;
            for (int r : rs) {
                if (rowStays(r)) {
                    rows++;
                    if (!keys.add(key(r))) {
                        all.add(new int[] {7, r, NONE});
                    }
                }
            }
            int columns = 0;
            for (int c : cs) {
                columns += columnStays(c) ? 1 : 0;
            }
            if (columns > 5 || rows > 16) {
                all.add(new int[] {8, NONE, NONE});
            }
        }

        Sheet result(int maker) {
            Sheet made = new Sheet();
            for (int c : cs) {
                if (columnStays(c)) {
                    made.columns.put(c, kind(c));
                }
            }
            for (int r : rs) {
                if (rowStays(r)) {
                    made.keys.put(r, key(r));
                    for (int c : made.columns.keySet()) {
                        made.put(r, c, cell(r, c, maker));
                    }
                }
            }
            return made;
        }

        Box cell(int r, int c, int maker) {
            if (a.holds(r, c) && b.holds(r, c)) {
                boolean inA = cellChanged(a, r, c);
                boolean inB = cellChanged(b, r, c);
                if (inA && inB) {
                    return new Box(a.box(r, c).number == null ? null : seen(a, r, c).number,
                        Math.min(a.box(r, c).maker, b.box(r, c).maker));
                }
                return inB ? seen(b, r, c) : seen(a, r, c);
            }
            if (a.holds(r, c)) {
                return seen(a, r, c);
            }
            return b.holds(r, c) ? seen(b, r, c) : new Box(null, maker);
        }
    }

    /** A call that may change the object. */
    private interface Change {
        long on(TableHistories x);
    }

    /** One run: the same calls on the class and on the model. */
    private static final class Run {
        final Due due;
        final int seed;
        final Random chance;
        final List<Change> past = new ArrayList<>();
        TableHistories object = new TableHistories();
        int used = 0;
        final Model model = new Model();
        final int keys;
        final int branches;
        final int[] sorts;

        Run(Due due, int seed, int[] sorts) {
            this.due = due;
            this.seed = seed;
            this.sorts = sorts;
            chance = new Random(seed);
            keys = seed % 3 == 0 ? 4 : seed % 3 == 1 ? 10 : 60;
            branches = 2 + seed % 4;
        }

        /** The object for one call more; past its last promised one, a new one on which the same changes were made. */
        TableHistories real() {
            if (used == MOST_CALLS) {
                object = new TableHistories();
                for (Change change : past) {
                    change.on(object);
                }
                used = past.size();
            }
            used++;
            return object;
        }

        long changed(Change change) {
            long answer = change.on(real());
            past.add(change);
            return answer;
        }

        void is(String call, long got, long want) {
            due.is("seed " + seed + ", version " + model.versions.size() + ": " + call, got, want);
        }

        int pick(int below) {
            return chance.nextInt(40) == 0 ? chance.nextInt(3) * (below + 1) - 1 : chance.nextInt(below);
        }

        int column(int branch) {
            List<Integer> there = new ArrayList<>(model.on(branch).columns.keySet());
            if (there.isEmpty() || chance.nextInt(12) == 0) {
                return chance.nextInt(model.columnsEver + 2) - 1;
            }
            return there.get(chance.nextInt(there.size()));
        }

        int key(int branch) {
            List<Integer> there = new ArrayList<>(model.on(branch).keys.values());
            if (there.isEmpty() || chance.nextInt(12) == 0) {
                boolean atTheEdge = chance.nextInt(60) == 0;
                return atTheEdge ? 99 + chance.nextInt(2) : chance.nextInt(keys + 1) - (chance.nextInt(9) / 8);
            }
            return there.get(chance.nextInt(there.size()));
        }

        long number() {
            return NUMBERS[chance.nextInt(NUMBERS.length)];
        }

        void go(int calls) {
            for (int i = 0; i < calls; i++) {
                step();
            }
            checkVersion(0);
            for (int i = 0; i < 6; i++) {
                checkDifferences(chance.nextInt(model.versions.size()), chance.nextInt(model.versions.size()));
            }
        }

        void step() {
            int before = model.versions.size();
            int branch = chance.nextInt(branches);
            int who = chance.nextInt(50) == 0 ? chance.nextInt(3) * 11 - 1 : chance.nextInt(10);
            int given = chance.nextInt(60) == 0 ? 5 - 6 * chance.nextInt(2) : branch;
            change(chance.nextInt(100), branch, given, who);
            if (model.versions.size() > before) {
                checkVersion(before);
            }
            is("at", real().at(branch), model.at[branch]);
            is("count(0)", real().count(0), model.versions.size());
            is("count(1)", real().count(1), model.columnsEver);
            is("count(2)", real().count(2), model.rowsEver);
            is("count(3)", real().count(3), model.clashes.size());
        }

        void change(int dice, int branch, int given, int who) {
            if (dice < 20) {
                int key = chance.nextInt(20) == 0 ? key(branch) : chance.nextInt(keys);
                is("row", changed(x -> x.row(given, who, key)), model.row(given, who, key));
            } else if (dice < 26) {
                int key = key(branch);
                is("gone", changed(x -> x.gone(given, who, key)), model.gone(given, who, key));
            } else if (dice < 52) {
                write(branch, given, who);
            } else if (dice < 60) {
                int kind = pick(4);
                is("column", changed(x -> x.column(given, who, kind)), model.column(given, who, kind));
            } else if (dice < 62) {
                int column = column(branch);
                is("drop", changed(x -> x.drop(given, who, column)), model.drop(given, who, column));
            } else if (dice < 69) {
                int column = column(branch);
                int kind = pick(4);
                int rule = pick(3);
                is("retype", changed(x -> x.retype(given, who, column, kind, rule)),
                    model.retype(given, who, column, kind, rule));
            } else if (dice < 74) {
                int key = key(branch);
                int to = chance.nextInt(10) == 0 ? key(branch) : chance.nextInt(keys);
                is("move", changed(x -> x.move(given, who, key, to)), model.move(given, who, key, to));
            } else if (dice < 82) {
                int last = model.versions.size();
                int version = chance.nextInt(20) == 0 ? last : Math.max(0, last - 1 - chance.nextInt(12));
                is("branch", changed(x -> x.branch(given, version)), model.branch(given, version));
            } else {
                merge(given, chance.nextInt(branches), who);
            }
        }

        void write(int branch, int given, int who) {
            int key = key(branch);
            int column = column(branch);
            if (chance.nextInt(6) == 0) {
                is("empty", changed(x -> x.empty(given, who, key, column)), model.write(given, who, key, column, null));
            } else {
                long v = number();
                is("cell", changed(x -> x.cell(given, who, key, column, v)), model.write(given, who, key, column, v));
            }
        }

        void merge(int branch, int other, int who) {
            List<int[]> before = model.clashes;
            is("merge(" + branch + ", " + other + ")", changed(x -> x.merge(branch, other, who)),
                model.merge(branch, other, who));
            for (int i = 0; i <= model.clashes.size(); i++) {
                checkFinding("clash " + i, i, model.clashes);
            }
            if (model.clashes != before) {
                for (int[] clash : model.clashes) {
                    sorts[clash[0]]++;
                }
            }
        }

        void checkFinding(String what, int i, List<int[]> all) {
            for (int part = 0; part < 3; part++) {
                is(what, real().clash(i, part), i < all.size() ? all.get(i)[part] : NONE);
            }
        }

        void checkVersion(int v) {
            Sheet sheet = model.versions.get(v);
            is("who", real().version(v, 0), sheet.who);
            is("parent", real().version(v, 1), sheet.parent);
            is("second parent", real().version(v, 2), sheet.second);
            is("columns", real().version(v, 3), sheet.columns.size());
            is("rows", real().version(v, 4), sheet.keys.size());
            int i = 0;
            for (int c : sheet.columns.keySet()) {
                is("column's number", real().columnOf(v, i, 0), c);
                is("column's kind", real().columnOf(v, i, 1), sheet.columns.get(c).kind);
                is("column's rule", real().columnOf(v, i, 2), sheet.columns.get(c).rule);
                i++;
            }
            is("behind the columns", real().columnOf(v, i, 0), NONE);
            i = 0;
            for (int r : sheet.keys.keySet()) {
                is("row's number", real().rowOf(v, i, 0), r);
                is("row's key", real().rowOf(v, i, 1), sheet.keys.get(r));
                i++;
            }
            is("behind the rows", real().rowOf(v, i, 0), NONE);
            checkCells(v, sheet);
            checkDifferences(sheet.parent == NONE ? 0 : sheet.parent, v);
            int other = chance.nextInt(model.versions.size());
            is("base", real().base(v, other), model.base(v, other));
        }

        /** The cells that are there, and beside them those of a key and of a column that may not be. */
        void checkCells(int v, Sheet sheet) {
            TreeSet<Integer> asked = new TreeSet<>(sheet.keys.values());
            asked.add(chance.nextInt(100));
            TreeSet<Integer> cs = new TreeSet<>(sheet.columns.keySet());
            cs.add(chance.nextInt(model.columnsEver + 1));
            for (int key : asked) {
                for (int c : cs) {
                    checkCell(v, sheet, key, c);
                }
            }
        }

        void checkCell(int v, Sheet sheet, int key, int c) {
            int r = sheet.rowWith(key);
            boolean there = r >= 0 && sheet.columns.containsKey(c);
            int none = c < model.columnsEver ? NO : BAD;
            Box box = there ? sheet.box(r, c) : null;
            is("has", real().has(v, key, c), there ? box.number == null ? 0 : 1 : none);
            is("value", real().value(v, key, c), there && box.number != null ? box.number : 0);
            is("madeBy", real().madeBy(v, key, c), there ? box.maker : none);
        }

        void checkDifferences(int x, int y) {
            List<int[]> all = model.differences(model.versions.get(x), model.versions.get(y));
            is("differences", real().differences(x, y), all.size());
            for (int i = 0; i <= all.size(); i++) {
                for (int part = 0; part < 3; part++) {
                    is("difference", real().difference(x, y, i, part), i < all.size() ? all.get(i)[part] : NONE);
                }
            }
        }
    }

    public static void main(String[] args) {
        Due due = new Due();
        int[] sorts = new int[9];
        int fullRuns = 0;
        for (int seed = 0; seed < RUNS; seed++) {
            Run run = new Run(due, seed, sorts);
            run.go(40 + 30 * (seed % 9));
            fullRuns += run.model.full() ? 1 : 0;
        }
        for (int sort = 1; sort <= 8; sort++) {
            System.out.println("clashes of sort " + sort + ": " + sorts[sort]);
            due.isTrue("the runs reach clashes of sort " + sort, sorts[sort] > 0);
        }
        System.out.println("runs that came to 150 versions: " + fullRuns);
        due.isTrue("some runs come to 150 versions", fullRuns > 0);
        due.end();
    }
}
