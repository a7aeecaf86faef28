/** The sentences of promises 15 to 17 that name a boundary case, each with a test of its own. */
public final class SystemsEdgesTest {
    private static final int[] FAR = {Integer.MIN_VALUE, Integer.MAX_VALUE};
    private static final Due due = new Due();

    public static void main(String[] args) {
        entryOfTheGreatestSizes();
        entryRefused();
        solveAnswersZero();
        solveNamesTheFirstRow();
        solveOfNoSuchRows();
        answerOfTheSystemSolvedLast();
        answerAsItWasThen();
        answerInLowestTerms();
        answerOfNoneSuch();
        answerWhenNothingWasSolved();
        due.end();
    }

    private static KilogramRows system(int[]... rows) {
        KilogramRows x = new KilogramRows(1);
        tell(x, rows);
        return x;
    }

    private static void tell(KilogramRows x, int[]... rows) {
        for (int i = 0; i < rows.length; i++) {
            for (int j = 0; j < rows[i].length; j++) {
                due.yes("entry(" + i + ", " + j + ", " + rows[i][j] + ")", x.entry(i, j, rows[i][j]));
            }
        }
    }

    private static int[] row(int... entries) {
        return entries;
    }

    private static void answers(String name, KilogramRows x, long... want) {
        for (int k = 0; 2 * k < want.length; k++) {
            due.same(name + ", x " + k + " upper", x.answer(k, 0), want[2 * k]);
            due.same(name + ", x " + k + " lower", x.answer(k, 1), want[2 * k + 1]);
        }
        for (int k = want.length / 2; k < 5; k++) {
            due.noNumber(name + ", no x " + k, x.answer(k, 0));
            due.noNumber(name + ", no x " + k, x.answer(k, 1));
        }
    }

    private static void entryOfTheGreatestSizes() {
        due.sentence("Promise 15: An entry of a system becomes -100 .. 100.");
        for (int v = -100; v <= 100; v++) {
            KilogramRows x = system(row(1, 0, 0, 0, v));
            due.same("solve(1)", x.solve(1), 0);
            answers("entry 4 is " + v, x, v, 1);
        }
        for (int size = 99; size <= 100; size++) {
            KilogramRows x = system(row(size, 0, 0, 0, 1), row(0, -size, 0, 0, 1), row(0, 0, size, 0, 1), row(0, 0, 0, -size, 1));
            due.same("solve(4)", x.solve(4), 0);
            answers("entries of " + size, x, 1, size, -1, size, 1, size, -1, size);
        }
        KilogramRows x = system(row(5, 0, 0, 0, 1));
        due.yes("told again", x.entry(0, 0, 7));
        due.same("solve(1)", x.solve(1), 0);
        answers("it is the later one", x, 1, 7);
        due.yes("told 0", x.entry(0, 0, 0));
        due.same("solve(1) of 0", x.solve(1), 1);
    }

    private static void entryRefused() {
        due.sentence("Promise 15: Answers true, or false.");
        KilogramRows x = system(row(3, 0, 0, 0, 7), row(0, 3, 0, 0, 8), row(0, 0, 3, 0, 10), row(0, 0, 0, 3, 11));
        for (int v : new int[] {-101, 101, -102, 102, 1000, FAR[0], FAR[1]}) {
            for (int i = 0; i < 4; i++) {
                due.no("entry(" + i + ", " + i + ", " + v + ")", x.entry(i, i, v));
                due.no("entry(" + i + ", 4, " + v + ")", x.entry(i, 4, v));
            }
        }
        for (int wrong : new int[] {-1, -2, 4, 5, 6, FAR[0], FAR[1]}) {
            for (int right = 0; right < 4; right++) {
                due.no("entry(" + wrong + ", " + right + ", 50)", x.entry(wrong, right, 50));
                if (wrong != 4) {
                    due.no("entry(" + right + ", " + wrong + ", 50)", x.entry(right, wrong, 50));
                }
            }
            due.no("entry(" + wrong + ", 4, 50)", x.entry(wrong, 4, 50));
        }
        due.same("solve(4)", x.solve(4), 0);
        answers("all as it was", x, 7, 3, 8, 3, 10, 3, 11, 3);
    }

    private static void solveAnswersZero() {
        due.sentence("Promise 16: Solves the first R rows. Answers 0");
        KilogramRows one = system(row(-4, 0, 0, 0, 6));
        due.same("solve(1)", one.solve(1), 0);
        answers("-4 x 0 = 6", one, -3, 2);
        due.same("solve(1) once more", one.solve(1), 0);
        answers("-4 x 0 = 6 once more", one, -3, 2);
        KilogramRows two = system(row(0, 7, 0, 0, 3), row(2, 0, 0, 0, 5));
        due.same("solve(2) with a 0 in the corner", two.solve(2), 0);
        answers("turned", two, 5, 2, 3, 7);
        KilogramRows three = system(row(1, 1, 1, 0, 0), row(1, 1, 2, 0, 3), row(1, 2, 1, 0, 4));
        due.same("solve(3) with a 0 on the way", three.solve(3), 0);
        answers("three", three, -7, 1, 4, 1, 3, 1);
        KilogramRows signs = system(row(-1, 2, 3, 0, 1), row(2, -5, 1, 0, 2), row(3, 1, -1, 0, 3));
        due.same("solve(3) with -1 in the corner", signs.solve(3), 0);
        answers("signs", signs, 65, 57, 10, 57, 34, 57);
        KilogramRows nothing = system(row(1, 2, 3, 4, 0), row(0, 1, 2, 3, 0), row(0, 0, 1, 2, 0), row(5, 0, 0, 1, 0));
        due.same("solve(4) of right sides 0", nothing.solve(4), 0);
        answers("all 0", nothing, 0, 1, 0, 1, 0, 1, 0, 1);
        KilogramRows great = system(row(99, 98, 97, 100, 100), row(-97, 99, 100, -98, 99), row(98, -100, 99, -97, 97),
            row(-100, -97, 98, 99, -98));
        due.same("solve(4) of great entries", great.solve(4), 0);
        answers("great", great, 382356027L, 753244285L, 378475718L, 753244285L, 382259679L, 753244285L, -366986274L,
            753244285L);
    }

    private static void solveNamesTheFirstRow() {
        due.sentence("Promise 16: or 1 and the number of the first row that tells nothing new");
        due.same("row 0 of one", system(row(0, 1, 1, 1, 1)).solve(1), 1);
        KilogramRows all = system(row(0, 0, 0, 0, 1));
        for (int rows = 1; rows <= 4; rows++) {
            due.same("row 0 of " + rows, all.solve(rows), 1);
        }
        KilogramRows second = system(row(1, 2, 3, 4, 1), row(1, 2, 3, 4, 1), row(1, 2, 3, 4, 1), row(1, 2, 3, 4, 1));
        due.same("row 0 tells something new", second.solve(1), 0);
        for (int rows = 2; rows <= 4; rows++) {
            due.same("row 1 of " + rows, second.solve(rows), 2);
        }
        KilogramRows third = system(row(1, 0, 1, 0, 1), row(0, 1, 1, 0, 1), row(1, 1, 2, 0, 1), row(0, 0, 0, 0, 1));
        due.same("rows 0 and 1 tell something new", third.solve(2), 0);
        due.same("row 2 of 3", third.solve(3), 3);
        due.same("row 2 of 4, though row 3 is all 0", third.solve(4), 3);
        KilogramRows fourth = system(row(1, 0, 0, 1, 1), row(0, 1, 0, 1, 1), row(0, 0, 1, 1, 1), row(1, 1, 1, 3, 1));
        due.same("rows 0 to 2 tell something new", fourth.solve(3), 0);
        due.same("row 3 of 4", fourth.solve(4), 4);
        fourth.entry(3, 3, 2);
        due.same("row 3 tells something new", fourth.solve(4), 0);
    }

    private static void solveOfNoSuchRows() {
        due.sentence("Promise 16: NONE when R is not such.");
        KilogramRows x = system(row(2, 0, 0, 0, 3), row(0, 2, 0, 0, 5), row(0, 0, 2, 0, 7), row(0, 0, 0, 2, 9));
        for (int rows : new int[] {0, -1, 5, 6, FAR[0], FAR[1]}) {
            due.none("solve(" + rows + ")", x.solve(rows));
            due.noNumber("nothing is solved", x.answer(0, 0));
        }
        due.same("solve(2)", x.solve(2), 0);
        for (int rows : new int[] {0, -1, 5, 6, FAR[0], FAR[1]}) {
            due.none("solve(" + rows + ")", x.solve(rows));
            answers("as it was solved", x, 3, 2, 5, 2);
        }
        due.none("solve(5) of entries 0", new KilogramRows(1).solve(5));
        due.none("solve(0) of entries 0", new KilogramRows(1).solve(0));
    }

    private static void answerOfTheSystemSolvedLast() {
        due.sentence("Promise 17: x k of the system that was solved last (by a solve() that answered 0)");
        KilogramRows x = system(row(1, 1, 0, 0, 5), row(1, -1, 0, 0, 1), row(2, 0, 0, 0, 50), row(0, 0, 0, 3, 1));
        due.same("solve(2)", x.solve(2), 0);
        answers("solved", x, 3, 1, 2, 1);
        due.same("solve(3), whose row 2 tells nothing new", x.solve(3), 3);
        answers("after solve(3)", x, 3, 1, 2, 1);
        due.same("solve(4), whose row 2 tells nothing new", x.solve(4), 3);
        answers("after solve(4)", x, 3, 1, 2, 1);
        x.entry(0, 0, 0);
        due.same("solve(1), whose row 0 tells nothing new", x.solve(1), 1);
        answers("after solve(1)", x, 3, 1, 2, 1);
        x.entry(0, 0, 4);
        due.same("solve(1)", x.solve(1), 0);
        answers("x 1 is of the system before", x, 5, 4);
        x.entry(2, 2, 10);
        due.same("solve(4)", x.solve(4), 0);
        answers("more than before", x, 6, 5, 1, 5, 119, 25, 1, 3);
        due.same("solve(2)", x.solve(2), 0);
        answers("fewer than before", x, 6, 5, 1, 5);
    }

    private static void answerAsItWasThen() {
        due.sentence("Promise 17: as it was then");
        KilogramRows x = system(row(2, 0, 0, 0, 3), row(0, 2, 0, 0, 5));
        due.same("solve(2)", x.solve(2), 0);
        tell(x, row(7, 7, 7, 7, 7), row(9, 8, 7, 6, 5), row(1, 1, 1, 1, 1));
        answers("with other entries", x, 3, 2, 5, 2);
        tell(x, row(0, 0, 0, 0, 0), row(0, 0, 0, 0, 0));
        answers("with entries 0", x, 3, 2, 5, 2);
        due.no("a refused entry", x.entry(0, 0, 101));
        answers("with a refused entry", x, 3, 2, 5, 2);
    }

    private static void answerInLowestTerms() {
        due.sentence("Promise 17: its upper (part = 0), or lower number (1, above 0), in lowest terms");
        int[][] table = {{6, 4, 2, 3}, {-6, 4, -2, 3}, {6, -4, -2, 3}, {-6, -4, 2, 3}, {5, 0, 0, 1}, {-5, 0, 0, 1},
            {5, 5, 1, 1}, {-5, 5, -1, 1}, {100, -100, -1, 1}, {-100, 99, -99, 100}, {-100, 1, -1, 100}, {1, -100, -100, 1}};
        for (int[] t : table) {
            KilogramRows x = system(row(t[0], 0, 0, 0, t[1]));
            due.same("solve(1)", x.solve(1), 0);
            answers(t[0] + " x 0 = " + t[1], x, t[2], t[3]);
        }
        KilogramRows x = system(row(0, 4, 0, 0, 2), row(-6, 0, 0, 0, 9));
        due.same("solve(2)", x.solve(2), 0);
        answers("each in its own lowest terms", x, -3, 2, 1, 2);
        KilogramRows y = system(row(-3, 3, 0, 0, 6), row(3, 3, 0, 0, 0));
        due.same("solve(2)", y.solve(2), 0);
        answers("a determinant below 0", y, -1, 1, 1, 1);
    }

    private static void answerOfNoneSuch() {
        due.sentence("Promise 17: Long.MIN_VALUE when there is none such.");
        KilogramRows x = system(row(1, 0, 0, 0, 5), row(0, 1, 0, 0, 6), row(0, 0, 1, 0, 7), row(0, 0, 0, 1, 8));
        for (int rows = 1; rows <= 4; rows++) {
            due.same("solve(" + rows + ")", x.solve(rows), 0);
            due.same("the last x", x.answer(rows - 1, 0), 4 + rows);
            for (int k : new int[] {rows, rows + 1, -1, -2, FAR[0], FAR[1]}) {
                due.noNumber("answer(" + k + ", 0)", x.answer(k, 0));
                due.noNumber("answer(" + k + ", 1)", x.answer(k, 1));
            }
            for (int part : new int[] {-1, 2, 3, FAR[0], FAR[1]}) {
                due.noNumber("answer(0, " + part + ")", x.answer(0, part));
                due.noNumber("answer(4, " + part + ")", x.answer(4, part));
            }
        }
    }

    private static void answerWhenNothingWasSolved() {
        due.sentence("Promise 17: .. there is none such (no solve() has answered 0)");
        KilogramRows x = new KilogramRows(1);
        answers("a new object", x);
        due.same("solve(2)", x.solve(2), 1);
        answers("a solve that named a row", x);
        tell(x, row(1, 2, 0, 0, 1), row(2, 4, 0, 0, 1));
        due.same("solve(2)", x.solve(2), 2);
        answers("a solve that named another row", x);
        due.none("solve(5)", x.solve(5));
        answers("a solve that was refused", x);
        due.same("solve(1)", x.solve(1), 0);
        answers("a solve that answered 0", x, 1, 1);
    }
}
