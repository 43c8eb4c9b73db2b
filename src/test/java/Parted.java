/** Two BRANCHES that part from one VERSION, for the tests of merging. */
final class Parted {
    private Parted() {
    }

    /** A change, less its BRANCH and WHO. */
    record Step(String name, long... numbers) {
        int makeOn(Calls x, int branch) {
            long[] all = new long[numbers.length + 2];
            all[0] = branch;
            System.arraycopy(numbers, 0, all, 2, numbers.length);
            return x.makes(name, all);
        }
    }

    /** Looks at the VERSION that a merge made. */
    interface Look {
        void at(Calls x, int v);
    }

    /** COLUMNS 0 (16 bits), 1 (32 bits), ROWS 0 to 2 with the KEYS 10 to 12, a 500 at 10, 0; all BRANCHES are at 6. */
    static Calls start(Due due, String sentence) {
        Calls x = new Calls(due, sentence);
        x.is(1, "column", 0, 0, 1);
        x.is(2, "column", 0, 0, 2);
        x.is(3, "row", 0, 0, 10);
        x.is(4, "row", 0, 0, 11);
        x.is(5, "row", 0, 0, 12);
        x.is(6, "cell", 0, 0, 10, 0, 500);
        for (int branch = 1; branch < 5; branch++) {
            x.is(0, "branch", branch, 6);
        }
        return x;
    }

    /** The steps of one on BRANCH 0, from VERSION 7 on, then those of the other on BRANCH 1. */
    static Calls calls(Due due, String sentence, Step[] one, Step[] other) {
        Calls x = start(due, sentence);
        for (Step step : one) {
            step.makeOn(x, 0);
        }
        for (Step step : other) {
            step.makeOn(x, 1);
        }
        return x;
    }

    /** Merged either way, and looked at. */
    static void merged(Due due, String sentence, Step[] one, Step[] other, Look look) {
        for (int into = 0; into < 2; into++) {
            Calls x = calls(due, sentence, one, other);
            look.at(x, x.makes("merge", into, 1 - into, 0));
        }
    }

    /** Neither way can be merged, for the same CLASHES. */
    static void clashes(Due due, String sentence, Step[] one, Step[] other, int[]... all) {
        Calls x = calls(due, sentence, one, other);
        x.clashes(0, 1, all);
        x.clashes(1, 0, all);
    }

    /** ROW 3 (KEY 60), COLUMN 2 and a 4 there, MADE by 9, are in 11 (BRANCH 2) and 12 (BRANCH 3), not in their BASE, 10. */
    static Calls across(Due due, String sentence) {
        Calls x = start(due, sentence);
        x.is(7, "row", 0, 0, 60);
        x.is(8, "column", 0, 0, 2);
        x.is(9, "cell", 0, 0, 60, 2, 4);
        x.is(10, "cell", 1, 0, 11, 0, 3);
        x.is(6, "branch", 2, 9);
        x.is(6, "branch", 3, 10);
        x.is(11, "merge", 2, 1, 0);
        x.is(12, "merge", 3, 0, 0);
        x.is(10, "base", 11, 12);
        return x;
    }
}
