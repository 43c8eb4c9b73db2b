import java.util.ArrayList;
import java.util.Arrays;
import java.util.List;

/** A run of calls on one object, for one sentence of the document, with the answers that are due. */
final class Calls {
    static final int BAD = -1, NO = -2, FULL = -3, NONE = -4;
    /** The document promises nothing of an object beyond these. */
    private static final int MOST_CALLS = 512;

    /** A call by its name, with all its numbers. */
    record Call(String name, long... numbers) {
        @Override
        public String toString() {
            StringBuilder text = new StringBuilder(name).append('(');
            for (int i = 0; i < numbers.length; i++) {
                text.append(i == 0 ? "" : ", ").append(numbers[i]);
            }
            return text.append(')').toString();
        }
    }

    private final Due due;
    private final String sentence;
    private final List<Call> past = new ArrayList<>();
    private TableHistories object = new TableHistories();
    private int used = 0;

    Calls(Due due, String sentence) {
        this.due = due;
        this.sentence = sentence;
    }

    // ---- a call and what is due

    void is(long want, String name, long... numbers) {
        Call call = new Call(name, numbers);
        due.is(sentence + ": " + call, ask(call), want);
    }

    /** A change that is taken: it answers the next VERSION, which is this method's answer too. */
    int makes(String name, long... numbers) {
        int next = versions();
        is(next, name, numbers);
        return next;
    }

    /** A call that answers so, and after which nothing has changed. */
    void refused(long want, String name, long... numbers) {
        Call call = new Call(name, numbers);
        String before = told(true);
        due.is(sentence + ": " + call, ask(call), want);
        due.isTrue(sentence + ": nothing changes by " + call, told(true).equals(before));
    }

    /** A merge() that is NO, for these CLASHES (sort, ROW, COLUMN), by which nothing else changes. */
    void clashes(int branch, int other, int[]... all) {
        String before = told(false);
        is(NO, "merge", branch, other, 0);
        due.isTrue(sentence + ": nothing is merged", told(false).equals(before));
        clashesAre(all);
    }

    void clashesAre(int[]... all) {
        is(all.length, "count", 3);
        for (int i = 0; i < all.length; i++) {
            for (int what = 0; what < 3; what++) {
                is(all[i][what], "clash", i, what);
            }
        }
        is(NONE, "clash", all.length, 0);
    }

    /** These are all DIFFERENCES (sort, ROW, COLUMN) from x to y. */
    void differencesAre(int x, int y, int[]... all) {
        is(all.length, "differences", x, y);
        for (int i = 0; i < all.length; i++) {
            for (int what = 0; what < 3; what++) {
                is(all[i][what], "difference", x, y, i, what);
            }
        }
        is(NONE, "difference", x, y, all.length, 0);
    }

    void numberIs(long number, int maker, int v, int key, int column) {
        is(1, "has", v, key, column);
        is(number, "value", v, key, column);
        is(maker, "madeBy", v, key, column);
    }

    void emptyIs(int maker, int v, int key, int column) {
        is(0, "has", v, key, column);
        is(0, "value", v, key, column);
        is(maker, "madeBy", v, key, column);
    }

    /** The NUMBERS of all COLUMNS of a VERSION. */
    void columnsAre(int v, int... numbers) {
        is(numbers.length, "version", v, 3);
        for (int i = 0; i < numbers.length; i++) {
            is(numbers[i], "columnOf", v, i, 0);
        }
        is(NONE, "columnOf", v, numbers.length, 0);
    }

    /** The NUMBERS of all ROWS of a VERSION. */
    void rowsAre(int v, int... numbers) {
        is(numbers.length, "version", v, 4);
        for (int i = 0; i < numbers.length; i++) {
            is(numbers[i], "rowOf", v, i, 0);
        }
        is(NONE, "rowOf", v, numbers.length, 0);
    }

    /** Makes VERSIONS on a BRANCH until there are so many: a ROW comes, with a KEY that is free there, and goes. */
    void fill(int branch, int key, int most) {
        boolean comes = true;
        for (int made = versions(); made < most; made++) {
            is(made, comes ? "row" : "gone", branch, 0, key);
            comes = !comes;
        }
    }

    int versions() {
        return (int) read("count", 0);
    }

    // ---- asking

    private long read(String name, long... numbers) {
        return ask(new Call(name, numbers));
    }

    /** Past its last promised call an object is left, and the same calls are made on a new one. */
    private long ask(Call call) {
        if (used == MOST_CALLS) {
            renew();
        }
        used++;
        if (mayChange(call.name)) {
            past.add(call);
        }
        return answer(object, call);
    }

    private void renew() {
        due.isTrue(sentence + ": the run is short enough", past.size() < MOST_CALLS);
        object = new TableHistories();
        used = past.size();
        for (Call call : past) {
            answer(object, call);
        }
    }

    private static boolean mayChange(String name) {
        return switch (name) {
            case "row", "gone", "cell", "empty", "column", "drop", "retype", "move", "branch", "merge" -> true;
            default -> false;
        };
    }

    private static long answer(TableHistories x, Call call) {
        return switch (call.name) {
            case "row" -> x.row(at(call, 0), at(call, 1), at(call, 2));
            case "gone" -> x.gone(at(call, 0), at(call, 1), at(call, 2));
            case "cell" -> x.cell(at(call, 0), at(call, 1), at(call, 2), at(call, 3), call.numbers[4]);
            case "empty" -> x.empty(at(call, 0), at(call, 1), at(call, 2), at(call, 3));
            case "column" -> x.column(at(call, 0), at(call, 1), at(call, 2));
            case "drop" -> x.drop(at(call, 0), at(call, 1), at(call, 2));
            case "retype" -> x.retype(at(call, 0), at(call, 1), at(call, 2), at(call, 3), at(call, 4));
            case "move" -> x.move(at(call, 0), at(call, 1), at(call, 2), at(call, 3));
            case "branch" -> x.branch(at(call, 0), at(call, 1));
            case "merge" -> x.merge(at(call, 0), at(call, 1), at(call, 2));
            default -> reading(x, call);
        };
    }

    private static long reading(TableHistories x, Call call) {
        return switch (call.name) {
            case "at" -> x.at(at(call, 0));
            case "clash" -> x.clash(at(call, 0), at(call, 1));
            case "base" -> x.base(at(call, 0), at(call, 1));
            case "version" -> x.version(at(call, 0), at(call, 1));
            case "columnOf" -> x.columnOf(at(call, 0), at(call, 1), at(call, 2));
            case "rowOf" -> x.rowOf(at(call, 0), at(call, 1), at(call, 2));
            case "has" -> x.has(at(call, 0), at(call, 1), at(call, 2));
            case "value" -> x.value(at(call, 0), at(call, 1), at(call, 2));
            case "madeBy" -> x.madeBy(at(call, 0), at(call, 1), at(call, 2));
            case "differences" -> x.differences(at(call, 0), at(call, 1));
            case "difference" -> x.difference(at(call, 0), at(call, 1), at(call, 2), at(call, 3));
            case "count" -> x.count(at(call, 0));
            default -> throw new IllegalArgumentException("no such call: " + call);
        };
    }

    private static int at(Call call, int place) {
        return Math.toIntExact(call.numbers[place]);
    }

    // ---- all that the object tells, as one text

    private String told(boolean withClashes) {
        StringBuilder all = new StringBuilder();
        for (int what = 0; what < 3; what++) {
            all.append(read("count", what)).append(' ');
        }
        for (int branch = 0; branch < 5; branch++) {
            all.append(read("at", branch)).append(' ');
        }
        if (withClashes) {
            long clashes = read("count", 3);
            for (int i = 0; i <= clashes; i++) {
                tellAll(all, 3, "clash", i);
            }
        }
        int versions = versions();
        for (int v = 0; v < versions; v++) {
            tellVersion(all, v);
        }
        return all.toString();
    }

    private void tellVersion(StringBuilder all, int v) {
        all.append("\nVERSION ").append(v).append(':');
        tellAll(all, 5, "version", v);
        long columns = read("version", v, 3);
        long rows = read("version", v, 4);
        for (int c = 0; c < columns; c++) {
            tellAll(all, 3, "columnOf", v, c);
        }
        for (int r = 0; r < rows; r++) {
            tellAll(all, 2, "rowOf", v, r);
            for (int c = 0; c < columns; c++) {
                tellCell(all, v, read("rowOf", v, r, 1), read("columnOf", v, c, 0));
            }
        }
    }

    private void tellCell(StringBuilder all, int v, long key, long column) {
        all.append(' ').append(read("has", v, key, column));
        all.append(' ').append(read("value", v, key, column));
        all.append(' ').append(read("madeBy", v, key, column));
    }

    /** What a call tells for each "what", its last number. */
    private void tellAll(StringBuilder all, int whats, String name, long... first) {
        for (int what = 0; what < whats; what++) {
            long[] numbers = Arrays.copyOf(first, first.length + 1);
            numbers[first.length] = what;
            all.append(' ').append(read(name, numbers));
        }
    }
}
