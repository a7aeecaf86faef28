import java.math.BigDecimal;
import java.math.BigInteger;
import java.math.RoundingMode;
import java.util.ArrayList;
import java.util.Arrays;
import java.util.List;

/** The document once more, slowly and with numbers of any size, to compare the class with. */
final class Model {
    private static final BigInteger MOST = BigInteger.valueOf(1000000000L);
    private static final RoundingMode[] RULES = {RoundingMode.FLOOR, RoundingMode.CEILING, RoundingMode.HALF_UP,
        RoundingMode.HALF_EVEN};

    private record Fraction(BigInteger upper, BigInteger lower) {
        static Fraction of(BigInteger above, BigInteger below) {
            BigInteger divisor = above.gcd(below).multiply(BigInteger.valueOf(below.signum()));
            return new Fraction(above.divide(divisor), below.divide(divisor));
        }

        static Fraction of(long whole) {
            return new Fraction(BigInteger.valueOf(whole), BigInteger.ONE);
        }

        boolean fits() {
            return upper.abs().compareTo(MOST) <= 0 && lower.compareTo(MOST) <= 0;
        }

        Fraction plus(Fraction o) {
            return of(upper.multiply(o.lower).add(o.upper.multiply(lower)), lower.multiply(o.lower));
        }

        Fraction minus(Fraction o) {
            return plus(new Fraction(o.upper.negate(), o.lower));
        }

        Fraction by(Fraction o) {
            return of(upper.multiply(o.upper), lower.multiply(o.lower));
        }

        Fraction per(Fraction o) {
            return of(upper.multiply(o.lower), lower.multiply(o.upper));
        }

        boolean isZero() {
            return upper.signum() == 0;
        }

        BigInteger part(int part) {
            return part == 0 ? upper : lower;
        }
    }

    private final int kinds;
    private final List<Fraction> values = new ArrayList<>();
    private final List<Integer[]> rows = new ArrayList<>();
    private final int[][] entries = new int[4][5];
    private Fraction[] answers = {};
    private final List<Integer> weights = new ArrayList<>();

    Model(int kinds) {
        this.kinds = kinds < 1 || kinds > 16 ? 1 : kinds;
    }

    private boolean has(int v) {
        return v >= 0 && v < values.size();
    }

    private int keep(Fraction f) {
        if (!f.fits() || values.size() == 300) {
            return -1;
        }
        values.add(f);
        return values.size() - 1;
    }

    int value(long above, long below) {
        if (below == 0) {
            throw new ArithmeticException();
        }
        return keep(Fraction.of(BigInteger.valueOf(above), BigInteger.valueOf(below)));
    }

    int part(int value, int part) {
        if (!has(value) || part < 0 || part > 1) {
            throw new IndexOutOfBoundsException();
        }
        return values.get(value).part(part).intValueExact();
    }

    int add(int a, int b) {
        return has(a) && has(b) ? keep(values.get(a).plus(values.get(b))) : -1;
    }

    int less(int a, int b) {
        return has(a) && has(b) ? keep(values.get(a).minus(values.get(b))) : -1;
    }

    int times(int a, int b) {
        return has(a) && has(b) ? keep(values.get(a).by(values.get(b))) : -1;
    }

    int over(int a, int b) {
        if (has(b) && values.get(b).isZero()) {
            throw new ArithmeticException();
        }
        return has(a) && has(b) ? keep(values.get(a).per(values.get(b))) : -1;
    }

    int order(int a, int b) {
        return has(a) && has(b) ? values.get(a).minus(values.get(b)).upper().signum() : -2;
    }

    long round(int a, int rule, long unit) {
        if (!has(a) || rule < 0 || rule > 3 || unit < 1 || unit > 1000000000L) {
            return Long.MIN_VALUE;
        }
        BigDecimal above = new BigDecimal(values.get(a).upper());
        BigDecimal below = new BigDecimal(values.get(a).lower()).multiply(BigDecimal.valueOf(unit));
        return above.divide(below, 0, RULES[rule]).longValueExact() * unit;
    }

    int digit(int a, int part, int i) {
        if (!has(a) || part < 0 || part > 1) {
            return -1;
        }
        String text = values.get(a).part(part).abs().toString();
        return i < 0 || i >= text.length() ? -1 : text.charAt(text.length() - 1 - i) - '0';
    }

    int row() {
        if (rows.size() == 20) {
            return -1;
        }
        Integer[] row = new Integer[kinds];
        Arrays.fill(row, -1);
        rows.add(row);
        return rows.size() - 1;
    }

    boolean put(int row, int kind, int v) {
        if (row < 0 || row >= rows.size()) {
            return false;
        }
        if (kind < 0 || kind >= kinds) {
            throw new IndexOutOfBoundsException();
        }
        if (v != -1 && !has(v)) {
            return false;
        }
        rows.get(row)[kind] = v;
        return true;
    }

    int at(int row, int kind) {
        if (row < 0 || row >= rows.size()) {
            return -1;
        }
        if (kind < 0 || kind >= kinds) {
            throw new IndexOutOfBoundsException();
        }
        return rows.get(row)[kind];
    }

    int sum(int row) {
        if (row < 0 || row >= rows.size()) {
            return -1;
        }
        Fraction all = null;
        for (int v : rows.get(row)) {
            if (v != -1) {
                all = all == null ? values.get(v) : all.plus(values.get(v));
                if (!all.fits()) {
                    return -1;
                }
            }
        }
        return all == null ? -1 : keep(all);
    }

    boolean entry(int i, int j, int v) {
        if (i < 0 || i > 3 || j < 0 || j > 4 || v < -100 || v > 100) {
            return false;
        }
        entries[i][j] = v;
        return true;
    }

    int solve(int size) {
        if (size < 1 || size > 4) {
            return -1;
        }
        for (int upTo = 1; upTo <= size; upTo++) {
            if (rank(upTo, size) < upTo) {
                return upTo;
            }
        }
        long all = determinant(size, -1, 0, 0);
        Fraction[] found = new Fraction[size];
        for (int k = 0; k < size; k++) {
            found[k] = Fraction.of(determinant(size, k, 0, 0)).per(Fraction.of(all));
        }
        answers = found;
        return 0;
    }

    /** The rank of the first rows, by elimination with rows exchanged and fractions of any size. */
    private int rank(int upTo, int columns) {
        Fraction[][] m = new Fraction[upTo][columns];
        for (int i = 0; i < upTo; i++) {
            for (int j = 0; j < columns; j++) {
                m[i][j] = Fraction.of(entries[i][j]);
            }
        }
        int rank = 0;
        for (int j = 0; j < columns && rank < upTo; j++) {
            int pivot = rank;
            while (pivot < upTo && m[pivot][j].isZero()) {
                pivot++;
            }
            if (pivot == upTo) {
                continue;
            }
            Fraction[] row = m[pivot];
            m[pivot] = m[rank];
            m[rank] = row;
            for (int i = rank + 1; i < upTo; i++) {
                Fraction factor = m[i][j].per(row[j]);
                for (int c = 0; c < columns; c++) {
                    m[i][c] = m[i][c].minus(factor.by(row[c]));
                }
            }
            rank++;
        }
        return rank;
    }

    /** By Cramer: with the right side in the place of one column, if it is not -1. */
    private long determinant(int size, int replaced, int row, int used) {
        if (row == size) {
            return 1;
        }
        long all = 0;
        int sign = 1;
        for (int j = 0; j < size; j++) {
            if ((used & 1 << j) == 0) {
                long entry = entries[row][j == replaced ? 4 : j];
                all += sign * entry * determinant(size, replaced, row + 1, used | 1 << j);
                sign = -sign;
            }
        }
        return all;
    }

    long answer(int k, int part) {
        boolean there = k >= 0 && k < answers.length && (part == 0 || part == 1);
        return there ? answers[k].part(part).longValueExact() : Long.MIN_VALUE;
    }

    int weight(int w) {
        if (w < 0 || w > 1000000 || weights.size() == 12) {
            return -1;
        }
        weights.add(w);
        return weights.size();
    }

    long share(long whole, int k) {
        long all = weights.stream().mapToLong(Integer::longValue).sum();
        if (whole < 0 || whole > 1000000000000L || k < 0 || k >= weights.size() || all == 0) {
            return -1;
        }
        long left = whole;
        long[] got = new long[weights.size()];
        long[] rest = new long[weights.size()];
        for (int i = 0; i < got.length; i++) {
            BigInteger[] both = BigInteger.valueOf(whole).multiply(BigInteger.valueOf(weights.get(i)))
                .divideAndRemainder(BigInteger.valueOf(all));
            got[i] = both[0].longValueExact();
            rest[i] = both[1].longValueExact();
            left -= got[i];
        }
        for (; left > 0; left--) {
            int next = 0;
            for (int i = 1; i < rest.length; i++) {
                next = rest[i] > rest[next] ? i : next;
            }
            got[next]++;
            rest[next] = -1;
        }
        return got[k];
    }
}
