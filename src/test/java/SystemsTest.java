/** Promises 15 to 17: systems of shares. */
public final class SystemsTest {
    private static final long NO_NUMBER = Long.MIN_VALUE;
    private static final Due due = new Due();

    public static void main(String[] args) {
        entry();
        solve();
        firstRowThatTellsNothingNew();
        onlyColumnsBelowRowsCount();
        answer();
        answersStay();
        greatestDeterminants();
        due.end();
    }

    private static KilogramRows system(int[][] entries) {
        KilogramRows x = new KilogramRows(1);
        for (int i = 0; i < entries.length; i++) {
            for (int j = 0; j < entries[i].length; j++) {
                due.yes("entry(" + i + ", " + j + ", " + entries[i][j] + ")", x.entry(i, j, entries[i][j]));
            }
        }
        return x;
    }

    private static void answers(String name, KilogramRows x, long[][] want) {
        for (int k = 0; k < want.length; k++) {
            due.same(name + ", x " + k + " upper", x.answer(k, 0), want[k][0]);
            due.same(name + ", x " + k + " lower", x.answer(k, 1), want[k][1]);
        }
        due.same(name + ", one more x", x.answer(want.length, 0), NO_NUMBER);
    }

    private static void entry() {
        KilogramRows x = system(new int[][] {{2, 0, 0, 0, 1}});
        int[][] wrong = {{4, 0, 5}, {-1, 0, 5}, {0, 5, 5}, {0, -1, 5}, {0, 0, 101}, {0, 0, -101},
            {Integer.MAX_VALUE, 0, 5}, {Integer.MIN_VALUE, 0, 5}, {0, Integer.MAX_VALUE, 5}, {0, Integer.MIN_VALUE, 5},
            {0, 0, Integer.MAX_VALUE}, {0, 0, Integer.MIN_VALUE}};
        for (int[] w : wrong) {
            due.no("entry(" + w[0] + ", " + w[1] + ", " + w[2] + ")", x.entry(w[0], w[1], w[2]));
        }
        due.same("solve(1)", x.solve(1), 0);
        answers("nothing refused changed an entry", x, new long[][] {{1, 2}});
        due.yes("entry(0, 0, 100)", x.entry(0, 0, 100));
        due.yes("entry(0, 4, -100)", x.entry(0, 4, -100));
        due.same("solve(1)", x.solve(1), 0);
        answers("entries at the limits", x, new long[][] {{-1, 1}});
        due.yes("entry(3, 3, -100)", x.entry(3, 3, -100));
        due.yes("an entry told again", x.entry(0, 0, 7));
        due.same("solve(1)", x.solve(1), 0);
        answers("the entry is that", x, new long[][] {{-100, 7}});
    }

    private static void solve() {
        KilogramRows x = system(new int[][] {{0, 2, 0, 0, 6}, {8, -3, 0, 0, 0}});
        due.same("solve(2) with a 0 first", x.solve(2), 0);
        answers("8 x 0 = 3 x 1", x, new long[][] {{9, 8}, {3, 1}});
        KilogramRows y = system(new int[][] {{0, 0, 0, 1, 4}, {0, 0, 1, 0, 3}, {0, 1, 0, 0, 2}, {1, 0, 0, 0, 1}});
        due.same("solve(4) of changed places", y.solve(4), 0);
        answers("changed places", y, new long[][] {{1, 1}, {2, 1}, {3, 1}, {4, 1}});
        KilogramRows z = system(new int[][] {{-2, 0, 0, 0, 4}, {1, -6, 0, 0, 0}, {0, 0, -5, 0, -3}, {1, 1, 1, 1, 0}});
        due.same("solve(4) of lesser signs", z.solve(4), 0);
        answers("lesser signs", z, new long[][] {{-2, 1}, {-1, 3}, {3, 5}, {26, 15}});
        int[] wrong = {0, 5, -1, Integer.MAX_VALUE, Integer.MIN_VALUE};
        for (int rows : wrong) {
            due.same("solve(" + rows + ")", z.solve(rows), -1);
        }
        answers("a refused solve changes nothing", z, new long[][] {{-2, 1}, {-1, 3}, {3, 5}, {26, 15}});
    }

    private static void firstRowThatTellsNothingNew() {
        int[][][] systems = {
            {{0, 0, 0, 0, 9}, {1, 0, 0, 0, 0}, {0, 1, 0, 0, 0}, {0, 0, 1, 0, 0}},
            {{1, 2, 3, 4, 1}, {2, 4, 6, 8, 5}, {0, 0, 1, 0, 0}, {0, 0, 0, 1, 0}},
            {{1, 2, 3, 4, 1}, {0, 0, 0, 0, 5}, {0, 0, 1, 0, 0}, {0, 0, 0, 1, 0}},
            {{1, 0, 2, 0, 1}, {0, 3, 0, 1, 5}, {3, -3, 6, -1, 7}, {1, 1, 1, 1, 1}},
            {{0, 0, 1, 1, 1}, {1, 1, 0, 0, 5}, {3, 3, 2, 2, 7}, {0, 0, 0, 0, 0}},
            {{2, 1, 0, 0, 0}, {0, 2, 1, 0, 0}, {0, 0, 2, 1, 0}, {1, 0, 0, 0, 0}},
            {{3, 1, 1, 1, 1}, {1, 3, 1, 1, 2}, {1, 1, 3, 1, 3}, {5, 5, 5, 3, 4}},
            {{2, 0, 0, 0, 1}, {0, 2, 0, 0, 1}, {0, 0, 2, 0, 1}, {1, 1, 1, 0, 50}}};
        int[] want = {1, 2, 2, 3, 3, 0, 4, 4};
        for (int s = 0; s < systems.length; s++) {
            due.same("solve(4) of system " + s, system(systems[s]).solve(4), want[s]);
        }
    }

    private static void onlyColumnsBelowRowsCount() {
        KilogramRows x = system(new int[][] {{1, 2, 5, 0, 1}, {2, 4, 0, 7, 9}, {0, 0, 1, 0, 3}});
        due.same("solve(2): column 2 does not count", x.solve(2), 2);
        due.same("solve(3)", x.solve(3), 3);
        x.entry(2, 1, 1);
        due.same("solve(3), now new", x.solve(3), 0);
        due.same("solve(1)", x.solve(1), 0);
        answers("x 0 alone", x, new long[][] {{1, 1}});
        KilogramRows y = system(new int[][] {{0, 1, 0, 0, 1}, {1, 0, 0, 0, 0}});
        due.same("solve(1) of 0 and 1", y.solve(1), 1);
        due.same("solve(2) of 0 and 1", y.solve(2), 0);
        KilogramRows z = system(new int[][] {{1, 1, 9, 9, 2}, {1, 2, 9, 9, 3}, {1, 1, 9, 9, 2}, {1, 1, 9, 9, 2}});
        due.same("solve(2): rows behind do not count", z.solve(2), 0);
        answers("two rows of four", z, new long[][] {{1, 1}, {1, 1}});
        due.same("solve(3)", z.solve(3), 3);
        due.same("solve(4)", z.solve(4), 3);
    }

    private static void answer() {
        KilogramRows x = system(new int[][] {{6, 0, 0, 0, -4}, {0, -6, 0, 0, -4}, {0, 0, 7, 0, 0}});
        due.same("answer before a solve", x.answer(0, 0), NO_NUMBER);
        due.same("answer before a solve, lower", x.answer(0, 1), NO_NUMBER);
        due.same("solve(3)", x.solve(3), 0);
        answers("lowest terms", x, new long[][] {{-2, 3}, {2, 3}, {0, 1}});
        int[][] wrong = {{3, 0}, {3, 1}, {-1, 0}, {0, 2}, {0, -1}, {Integer.MAX_VALUE, 0}, {Integer.MIN_VALUE, 1},
            {0, Integer.MAX_VALUE}, {0, Integer.MIN_VALUE}, {4, 0}};
        for (int[] w : wrong) {
            due.same("answer(" + w[0] + ", " + w[1] + ")", x.answer(w[0], w[1]), NO_NUMBER);
        }
    }

    private static void answersStay() {
        KilogramRows x = system(new int[][] {{2, 1, 0, 0, 5}, {1, -1, 0, 0, 1}});
        due.same("solve(2)", x.solve(2), 0);
        long[][] want = {{2, 1}, {1, 1}};
        answers("solved", x, want);
        x.entry(0, 4, 50);
        answers("after an entry, as it was then", x, want);
        due.same("solve(3)", x.solve(3), 3);
        answers("after a solve that found nothing new", x, want);
        x.entry(0, 0, 0);
        due.same("solve(1)", x.solve(1), 1);
        answers("after a solve of one row", x, want);
        x.entry(0, 0, 3);
        due.same("solve(1)", x.solve(1), 0);
        answers("fewer than before", x, new long[][] {{50, 3}});
        due.same("the second x is gone", x.answer(1, 1), NO_NUMBER);
        due.same("solve(2)", x.solve(2), 0);
        answers("and more again", x, new long[][] {{51, 4}, {47, 4}});
    }

    private static void greatestDeterminants() {
        int h = 100;
        // Hadamard's matrix: no determinant of such entries is greater than its 16 * 100^4.
        KilogramRows x = system(new int[][] {{h, h, h, h, 1}, {h, -h, h, -h, 0}, {h, h, -h, -h, 0}, {h, -h, -h, h, 0}});
        due.same("solve(4)", x.solve(4), 0);
        answers("greatest", x, new long[][] {{1, 400}, {1, 400}, {1, 400}, {1, 400}});
        KilogramRows y = system(new int[][] {{99, 98, 97, 100, 100}, {-97, 99, 100, -98, 99}, {98, -100, 99, -97, 97},
            {-100, -97, 98, 99, -98}});
        due.same("solve(4)", y.solve(4), 0);
        answers("great numbers", y, new long[][] {{382356027L, 753244285L}, {378475718L, 753244285L}, {382259679L, 753244285L}, {-366986274L, 753244285L}});
    }
}
