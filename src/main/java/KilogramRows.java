import java.util.Arrays;

/** Amounts by kinds as exact fractions; the document's promises stand at the methods by number. */
public final class KilogramRows {
    public static final int NONE = -1;

    private static final int MOST_KINDS = 16;
    private static final int MOST_ROWS = 20;
    private static final int MOST_DIGITS = 10;
    private static final long MOST_UNIT = 1000000000L;
    private static final int NO_ORDER = -2;
    private static final long NO_NUMBER = -9223372036854775808L;

    private static final int UPPER = 0;
    private static final int LOWER = 1;

    private static final int NOT_ABOVE = 0;
    private static final int NOT_BELOW = 1;
    private static final int NEAREST_OUTWARD = 2;
    private static final int NEAREST_EVEN = 3;

    /** Every two of Euclid's steps halve the rest at least, so two longs need fewer than 130. */
    private static final int MOST_STEPS = 200;

    private final int kinds;
    private final int[] cells;
    private int rowCount;
    private final Values values;
    private final ShareSystem system;
    private final Weights weights;

    /** Promise 1. */
    public KilogramRows(int kinds) {
        this.kinds = kinds >= 1 && kinds <= MOST_KINDS ? kinds : 1;
        this.cells = new int[MOST_ROWS * this.kinds];
        Arrays.fill(this.cells, NONE);
        this.rowCount = 0;
        this.values = new Values();
        this.system = new ShareSystem();
        this.weights = new Weights();
    }

    /** Promise 2. */
    public int value(long above, long below) throws ArithmeticException {
        if (below == 0) {
            throw new ArithmeticException("the lower number is 0");
        }
        return values.keep(above, below);
    }

    /** Promise 3. */
    public int part(int value, int part) throws IndexOutOfBoundsException {
        if (!values.has(value) || !isPart(part)) {
            throw new IndexOutOfBoundsException("no such value or part");
        }
        return values.partOf(value, part);
    }

    /** Promise 4. */
    public int add(int a, int b) {
        if (!values.hasBoth(a, b)) {
            return NONE;
        }
        // Numbers of 10^9 at most make products of 10^18, and two of these still fit a long.
        long above = values.upper(a) * values.lower(b) + values.upper(b) * values.lower(a);
        return values.keep(above, values.lower(a) * values.lower(b));
    }

    /** Promise 5. */
    public int less(int a, int b) {
        if (!values.hasBoth(a, b)) {
            return NONE;
        }
        long above = values.upper(a) * values.lower(b) - values.upper(b) * values.lower(a);
        return values.keep(above, values.lower(a) * values.lower(b));
    }

    /** Promise 6. */
    public int times(int a, int b) {
        if (!values.hasBoth(a, b)) {
            return NONE;
        }
        return values.keep(values.upper(a) * values.upper(b), values.lower(a) * values.lower(b));
    }

    /** Promise 7. */
    public int over(int a, int b) throws ArithmeticException {
        if (values.has(b) && values.upper(b) == 0) {
            throw new ArithmeticException("the divisor is 0");
        }
        if (!values.hasBoth(a, b)) {
            return NONE;
        }
        return values.keep(values.upper(a) * values.lower(b), values.lower(a) * values.upper(b));
    }

    /** Promise 8. */
    public int order(int a, int b) {
        if (!values.hasBoth(a, b)) {
            return NO_ORDER;
        }
        long left = values.upper(a) * values.lower(b);
        long right = values.upper(b) * values.lower(a);
        if (left == right) {
            return 0;
        }
        return left < right ? -1 : 1;
    }

    /** Promise 9. */
    public long round(int a, int rule, long unit) {
        if (!values.has(a) || rule < NOT_ABOVE || rule > NEAREST_EVEN) {
            return NO_NUMBER;
        }
        if (unit < 1 || unit > MOST_UNIT) {
            return NO_NUMBER;
        }
        long step = values.lower(a) * unit;
        if (step < 1) {
            return NO_NUMBER;
        }
        long multiple = Math.floorDiv(values.upper(a), step);
        long rest = Math.floorMod(values.upper(a), step);
        return goesUp(rule, multiple, rest, step) ? (multiple + 1) * unit : multiple * unit;
    }

    /** Promise 10. */
    public int digit(int a, int part, int i) {
        if (!values.has(a) || !isPart(part) || i < 0 || i >= MOST_DIGITS) {
            return NONE;
        }
        int rest = Math.abs(values.partOf(a, part));
        for (int k = 0; k < i; k++) {
            rest = rest / 10;
        }
        return i > 0 && rest == 0 ? NONE : rest % 10;
    }

    /** Promise 11. */
    public int row() {
        if (rowCount >= MOST_ROWS) {
            return NONE;
        }
        rowCount++;
        return rowCount - 1;
    }

    /** Promise 12. */
    public boolean put(int row, int kind, int v) throws IndexOutOfBoundsException {
        if (!hasRow(row)) {
            return false;
        }
        if (!hasKind(kind)) {
            throw new IndexOutOfBoundsException("no such kind");
        }
        if (v != NONE && !values.has(v)) {
            return false;
        }
        cells[row * kinds + kind] = v;
        return true;
    }

    /** Promise 13. */
    public int at(int row, int kind) throws IndexOutOfBoundsException {
        if (!hasRow(row)) {
            return NONE;
        }
        if (!hasKind(kind)) {
            throw new IndexOutOfBoundsException("no such kind");
        }
        return cells[row * kinds + kind];
    }

    /** Promise 14. */
    public int sum(int row) {
        if (!hasRow(row)) {
            return NONE;
        }
        boolean any = false;
        long upper = 0;
        long lower = 1;
        for (int kind = 0; kind < kinds; kind++) {
            int v = cells[row * kinds + kind];
            if (!values.has(v)) {
                continue;
            }
            long above = upper * values.lower(v) + values.upper(v) * lower;
            long below = lower * values.lower(v);
            long divisor = commonDivisor(above, below);
            if (divisor == 0) {
                return NONE;
            }
            upper = above / divisor;
            lower = below / divisor;
            if (!Values.fits(upper, lower)) {
                return NONE;
            }
            any = true;
        }
        return any ? values.keep(upper, lower) : NONE;
    }

    /** Promise 15. */
    public boolean entry(int i, int j, int v) {
        return system.setEntry(i, j, v);
    }

    /** Promise 16. */
    public int solve(int rows) {
        return system.solveFirst(rows);
    }

    /** Promise 17. */
    public long answer(int k, int part) {
        if (!system.hasAnswer(k) || !isPart(part)) {
            return NO_NUMBER;
        }
        return system.answerPart(k, part);
    }

    /** Promise 18. */
    public int weight(int w) {
        return weights.append(w);
    }

    /** Promise 19. */
    public long share(long whole, int k) {
        return weights.shareOf(whole, k);
    }

    private boolean hasRow(int row) {
        return row >= 0 && row < rowCount;
    }

    private boolean hasKind(int kind) {
        return kind >= 0 && kind < kinds;
    }

    private static boolean isPart(int part) {
        return part == UPPER || part == LOWER;
    }

    /** Whether the multiple above is taken, where the value lies rest / step above its multiple below. */
    private static boolean goesUp(int rule, long multiple, long rest, long step) {
        if (rule == NOT_ABOVE) {
            return false;
        }
        if (rule == NOT_BELOW) {
            return rest > 0;
        }
        if (2 * rest != step) {
            return 2 * rest > step;
        }
        if (rule == NEAREST_OUTWARD) {
            return multiple >= 0;
        }
        return (multiple & 1L) != 0;
    }

    /**
     * The greatest common divisor with the sign of below, so that below over it is above 0. With this
     * sign it always fits a long: it is 2^63 in size only when below is -2^63. It is 0 only of 0 and 0.
     */
    private static long commonDivisor(long above, long below) {
        long x = above;
        long y = below;
        for (int step = 0; step < MOST_STEPS && y != 0; step++) {
            long rest = x % y;
            x = y;
            y = rest;
        }
        return (x < 0) == (below < 0) ? x : -x;
    }

    /** The values in the order of their numbers, in lowest terms. */
    private static final class Values {
        private static final int MOST = 300;
        private static final long MOST_SIZE = 1000000000L;

        private final int[] uppers = new int[MOST];
        private final int[] lowers = new int[MOST];
        private int count = 0;

        boolean has(int v) {
            return v >= 0 && v < count;
        }

        boolean hasBoth(int a, int b) {
            return has(a) && has(b);
        }

        // As longs, so that products of two of them do not wrap round.
        long upper(int v) {
            return uppers[v];
        }

        long lower(int v) {
            return lowers[v];
        }

        int partOf(int v, int part) {
            return part == UPPER ? uppers[v] : lowers[v];
        }

        static boolean fits(long upper, long lower) {
            return upper >= -MOST_SIZE && upper <= MOST_SIZE && lower >= 1 && lower <= MOST_SIZE;
        }

        int keep(long above, long below) {
            long divisor = commonDivisor(above, below);
            if (divisor == 0 || count >= MOST) {
                return NONE;
            }
            // -2^63 over -1 wraps round to itself, which fits() refuses as it would 2^63.
            long upper = above / divisor;
            long lower = below / divisor;
            if (!fits(upper, lower)) {
                return NONE;
            }
            uppers[count] = (int) upper;
            lowers[count] = (int) lower;
            count++;
            return count - 1;
        }
    }

    /** The entries, and the answers of the system that was solved last. */
    private static final class ShareSystem {
        private static final int MOST = 4;
        private static final int RIGHT_SIDE = 4;
        private static final int COLUMNS = 5;
        private static final int MOST_SIZE = 100;

        private final int[][] entries = new int[MOST][COLUMNS];
        private final long[][] work = new long[MOST][COLUMNS];
        private final int[] pivots = new int[MOST];
        private final long[] uppers = new long[MOST];
        private final long[] lowers = new long[MOST];
        private int answers = 0;

        boolean setEntry(int i, int j, int v) {
            if (i < 0 || i >= MOST || j < 0 || j >= COLUMNS) {
                return false;
            }
            if (v < -MOST_SIZE || v > MOST_SIZE) {
                return false;
            }
            entries[i][j] = v;
            return true;
        }

        /**
         * Elimination without fractions (Bareiss): after each pivot all numbers are determinants of
         * entries, so the division by the pivot before leaves no rest and nothing outgrows a long.
         * Rows are never exchanged, so the first that becomes 0 is the first that tells nothing new.
         */
        int solveFirst(int size) {
            if (size < 1 || size > MOST) {
                return NONE;
            }
            copyEntries(size);
            long before = 1;
            for (int row = 0; row < size; row++) {
                int column = pivotColumn(row, size);
                if (column == NONE) {
                    return row + 1;
                }
                for (int other = 0; other < size; other++) {
                    if (other != row) {
                        eliminate(other, row, column, before);
                    }
                }
                pivots[row] = column;
                before = work[row][column];
            }
            keepAnswers(size);
            return 0;
        }

        private void copyEntries(int size) {
            for (int i = 0; i < size; i++) {
                for (int j = 0; j < COLUMNS; j++) {
                    work[i][j] = entries[i][j];
                }
            }
        }

        private int pivotColumn(int row, int size) {
            for (int j = 0; j < size; j++) {
                if (work[row][j] != 0) {
                    return j;
                }
            }
            return NONE;
        }

        private void eliminate(int other, int row, int column, long before) {
            if (before == 0) {
                return;
            }
            long pivot = work[row][column];
            long factor = work[other][column];
            for (int j = 0; j < COLUMNS; j++) {
                work[other][j] = (pivot * work[other][j] - factor * work[row][j]) / before;
            }
        }

        private void keepAnswers(int size) {
            for (int row = 0; row < size; row++) {
                int k = pivots[row];
                long above = work[row][RIGHT_SIDE];
                long below = work[row][k];
                long divisor = commonDivisor(above, below);
                if (divisor != 0) {
                    uppers[k] = above / divisor;
                    lowers[k] = below / divisor;
                }
            }
            answers = size;
        }

        boolean hasAnswer(int k) {
            return k >= 0 && k < answers;
        }

        long answerPart(int k, int part) {
            return part == UPPER ? uppers[k] : lowers[k];
        }
    }

    /** The weights that a whole is shared out by. */
    private static final class Weights {
        private static final int MOST = 12;
        private static final int MOST_SIZE = 1000000;
        private static final long MOST_WHOLE = 1000000000000L;

        private final int[] sizes = new int[MOST];
        private int count = 0;
        private long all = 0;

        int append(int w) {
            if (w < 0 || w > MOST_SIZE || count >= MOST) {
                return NONE;
            }
            sizes[count] = w;
            count++;
            all += w;
            return count;
        }

        long shareOf(long whole, int k) {
            if (k < 0 || k >= count || whole < 0 || whole > MOST_WHOLE || all < 1) {
                return NONE;
            }
            // 10^12 times 10^6 still fits a long.
            long own = whole * sizes[k] / all;
            long ownRest = whole * sizes[k] % all;
            long left = whole;
            int ahead = 0;
            for (int i = 0; i < count; i++) {
                long rest = whole * sizes[i] % all;
                left -= whole * sizes[i] / all;
                if (rest > ownRest || (rest == ownRest && i < k)) {
                    ahead++;
                }
            }
            return ahead < left ? own + 1 : own;
        }
    }
}
