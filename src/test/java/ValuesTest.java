import java.util.function.IntBinaryOperator;

/** Promises 1 to 10: values. */
public final class ValuesTest {
    private static final long NO_NUMBER = Long.MIN_VALUE;
    private static final long MOST = 1000000000L;
    private static final Due due = new Due();

    public static void main(String[] args) {
        newObject();
        value();
        valueOfExtremeLongs();
        threeHundredValues();
        part();
        add();
        less();
        times();
        over();
        order();
        round();
        roundAtTheLimits();
        digit();
        due.end();
    }

    private static void newObject() {
        int[][] kindsAndDue = {{1, 1}, {2, 2}, {15, 15}, {16, 16}, {17, 1}, {0, 1}, {-1, 1},
            {Integer.MAX_VALUE, 1}, {Integer.MIN_VALUE, 1}};
        for (int[] pair : kindsAndDue) {
            KilogramRows x = new KilogramRows(pair[0]);
            String made = "new(" + pair[0] + ") ";
            due.same(made + "order(0, 0)", x.order(0, 0), -2);
            due.same(made + "at(0, 0)", x.at(0, 0), KilogramRows.NONE);
            due.same(made + "at(0, 99) without the row", x.at(0, 99), KilogramRows.NONE);
            due.same(made + "share(1, 0)", x.share(1, 0), -1);
            due.same(made + "answer(0, 0)", x.answer(0, 0), NO_NUMBER);
            for (int rows = 1; rows <= 4; rows++) {
                due.same(made + "solve(" + rows + ")", x.solve(rows), 1);
            }
            due.same(made + "row()", x.row(), 0);
            for (int kind = 0; kind < pair[1]; kind++) {
                due.same(made + "at(0, " + kind + ")", x.at(0, kind), -1);
            }
            due.outOfBounds(made + "at(0, kinds)", () -> x.at(0, pair[1]));
            due.same(made + "value(1, 1)", x.value(1, 1), 0);
            due.same(made + "weight(0)", x.weight(0), 1);
        }
        due.same("NONE", KilogramRows.NONE, -1);
        twoObjectsAreApart();
    }

    private static void twoObjectsAreApart() {
        KilogramRows x = new KilogramRows(2);
        KilogramRows y = new KilogramRows(2);
        x.value(1, 2);
        x.row();
        x.weight(3);
        x.entry(0, 0, 1);
        due.same("the other's value", y.value(1, 3), 0);
        due.same("the other's row", y.row(), 0);
        due.same("the other's weight", y.weight(4), 1);
        due.same("the other's system", y.solve(1), 1);
        due.fraction("one's own value", x, 0, 1, 2);
    }

    private static void value() {
        KilogramRows x = new KilogramRows(1);
        due.fraction("6/4", x, x.value(6, 4), 3, 2);
        due.fraction("-6/4", x, x.value(-6, 4), -3, 2);
        due.fraction("6/-4", x, x.value(6, -4), -3, 2);
        due.fraction("-6/-4", x, x.value(-6, -4), 3, 2);
        due.fraction("0/-9", x, x.value(0, -9), 0, 1);
        due.same("the same again is a new one", x.value(6, 4), 5);
        due.fraction("10^9/1", x, x.value(MOST, 1), MOST, 1);
        due.fraction("-10^9/1", x, x.value(-MOST, 1), -MOST, 1);
        due.fraction("1/10^9", x, x.value(1, MOST), 1, MOST);
        due.fraction("2*10^9/2", x, x.value(2 * MOST, 2), MOST, 1);
        due.fraction("3/-3*10^9", x, x.value(3, -3 * MOST), -1, MOST);
        due.same("10^9+1", x.value(MOST + 1, 1), -1);
        due.same("-10^9-1", x.value(-MOST - 1, 1), -1);
        due.same("1/(10^9+1)", x.value(1, MOST + 1), -1);
        due.same("1/-(10^9+1)", x.value(1, -MOST - 1), -1);
        // A long that would seem small as an int.
        due.same("2^32+1", x.value((1L << 32) + 1, 1), -1);
        due.same("1/(2^32+1)", x.value(1, (1L << 32) + 1), -1);
        due.arithmetic("value(1, 0)", () -> x.value(1, 0));
        due.arithmetic("value(0, 0)", () -> x.value(0, 0));
        due.arithmetic("value(MIN, 0)", () -> x.value(Long.MIN_VALUE, 0));
        due.same("nothing refused was kept", x.value(1, 1), 11);
    }

    private static void valueOfExtremeLongs() {
        long min = Long.MIN_VALUE;
        long max = Long.MAX_VALUE;
        KilogramRows x = new KilogramRows(1);
        due.fraction("MIN/MIN", x, x.value(min, min), 1, 1);
        due.fraction("0/MIN", x, x.value(0, min), 0, 1);
        due.fraction("MAX/-MAX", x, x.value(max, -max), -1, 1);
        due.fraction("MIN/2^62", x, x.value(min, 1L << 62), -2, 1);
        due.fraction("2^62/MIN", x, x.value(1L << 62, min), -1, 2);
        due.fraction("MIN/-2^40", x, x.value(min, -(1L << 40)), 1L << 23, 1);
        due.same("MIN/1", x.value(min, 1), -1);
        due.same("MIN/-1", x.value(min, -1), -1);
        due.same("1/MIN", x.value(1, min), -1);
        due.same("-1/MIN", x.value(-1, min), -1);
        due.same("MIN/MAX", x.value(min, max), -1);
        due.same("MAX/MIN", x.value(max, min), -1);
        due.same("MAX/1", x.value(max, 1), -1);
        // Two neighbours of Fibonacci's row ask for the most steps of a divisor's search.
        due.same("F91/F92", x.value(4660046610375530309L, 7540113804746346429L), -1);
        due.fraction("F43/F44", x, x.value(433494437L, 701408733L), 433494437L, 701408733L);
        long times = 10000000000L;
        due.fraction("F43/F44 times 10^10", x, x.value(433494437L * times, 701408733L * -times), -433494437L, 701408733L);
    }

    private static void threeHundredValues() {
        KilogramRows x = new KilogramRows(1);
        for (int i = 0; i < 300; i++) {
            due.same("value number " + i, x.value(i, 7), i);
        }
        x.row();
        x.put(0, 0, 1);
        due.same("value 301", x.value(1, 1), -1);
        due.same("add at 300", x.add(1, 2), -1);
        due.same("less at 300", x.less(1, 2), -1);
        due.same("times at 300", x.times(1, 2), -1);
        due.same("over at 300", x.over(1, 2), -1);
        due.same("sum at 300", x.sum(0), -1);
        due.arithmetic("value(1, 0) at 300", () -> x.value(1, 0));
        due.arithmetic("over(1, 0) at 300", () -> x.over(1, 0));
        due.fraction("the last of 300", x, 299, 299, 7);
        due.outOfBounds("part(300, 0)", () -> x.part(300, 0));
        due.same("order at 300", x.order(299, 298), 1);
    }

    private static void part() {
        KilogramRows x = new KilogramRows(1);
        due.outOfBounds("part of no value", () -> x.part(0, 0));
        x.value(-10, 4);
        due.same("part(0, 0)", x.part(0, 0), -5);
        due.same("part(0, 1)", x.part(0, 1), 2);
        int[][] wrong = {{0, -1}, {0, 2}, {-1, 0}, {1, 0}, {-1, 5}, {Integer.MAX_VALUE, 1}, {Integer.MIN_VALUE, 1},
            {0, Integer.MAX_VALUE}, {0, Integer.MIN_VALUE}};
        for (int[] w : wrong) {
            due.outOfBounds("part(" + w[0] + ", " + w[1] + ")", () -> x.part(w[0], w[1]));
        }
    }

    /** Values 0 .. 8 are 1/2, -1/3, 0, 10^9, 1/10^9, -10^9, 1/(10^9 - 1), 1, -1. */
    private static KilogramRows someValues() {
        KilogramRows x = new KilogramRows(1);
        x.value(1, 2);
        x.value(-1, 3);
        x.value(0, 1);
        x.value(MOST, 1);
        x.value(1, MOST);
        x.value(-MOST, 1);
        x.value(1, MOST - 1);
        x.value(1, 1);
        x.value(-1, 1);
        return x;
    }

    private static void add() {
        KilogramRows x = someValues();
        due.same("add's number", x.add(0, 1), 9);
        due.fraction("1/2 + -1/3", x, 9, 1, 6);
        due.fraction("1/2 + 1/2", x, x.add(0, 0), 1, 1);
        due.fraction("-1/3 + 0", x, x.add(1, 2), -1, 3);
        due.fraction("10^9 + -10^9", x, x.add(3, 5), 0, 1);
        due.fraction("-10^9 + 1", x, x.add(5, 7), -MOST + 1, 1);
        due.fraction("1/10^9 + 1/10^9", x, x.add(4, 4), 1, MOST / 2);
        due.same("10^9 + 1", x.add(3, 7), -1);
        due.same("10^9 + 10^9", x.add(3, 3), -1);
        due.same("-10^9 + -1", x.add(5, 8), -1);
        due.same("10^9 + 1/10^9", x.add(3, 4), -1);
        due.same("1/10^9 + 1/(10^9-1)", x.add(4, 6), -1);
        noSuchValues("add", x::add, 15);
        due.same("add keeps nothing that it refuses", x.add(2, 2), 15);
    }

    private static void less() {
        KilogramRows x = someValues();
        due.same("less' number", x.less(0, 1), 9);
        due.fraction("1/2 - -1/3", x, 9, 5, 6);
        due.fraction("-1/3 - 1/2", x, x.less(1, 0), -5, 6);
        due.fraction("1/2 - 1/2", x, x.less(0, 0), 0, 1);
        due.fraction("10^9 - 1", x, x.less(3, 7), MOST - 1, 1);
        due.same("10^9 - -10^9", x.less(3, 5), -1);
        due.same("-10^9 - 1", x.less(5, 7), -1);
        due.same("1/10^9 - 1/(10^9-1)", x.less(4, 6), -1);
        noSuchValues("less", x::less, 13);
        due.same("less keeps nothing that it refuses", x.less(2, 2), 13);
    }

    private static void times() {
        KilogramRows x = someValues();
        due.same("times' number", x.times(0, 1), 9);
        due.fraction("1/2 * -1/3", x, 9, -1, 6);
        due.fraction("-1/3 * -1/3", x, x.times(1, 1), 1, 9);
        due.fraction("10^9 * 1/10^9", x, x.times(3, 4), 1, 1);
        due.fraction("0 * 1/10^9", x, x.times(2, 4), 0, 1);
        due.fraction("-10^9 * -1", x, x.times(5, 8), MOST, 1);
        due.same("10^9 * 10^9", x.times(3, 3), -1);
        due.same("10^9 * -10^9", x.times(3, 5), -1);
        due.same("1/10^9 * 1/2", x.times(4, 0), -1);
        due.same("10^9 * 1/(10^9-1) fits", x.times(3, 6), 14);
        noSuchValues("times", x::times, 15);
        due.same("times keeps nothing that it refuses", x.times(2, 2), 15);
    }

    private static void over() {
        KilogramRows x = someValues();
        due.same("over's number", x.over(0, 1), 9);
        due.fraction("1/2 over -1/3", x, 9, -3, 2);
        due.fraction("-1/3 over -1/3", x, x.over(1, 1), 1, 1);
        due.fraction("0 over -1/3", x, x.over(2, 1), 0, 1);
        due.fraction("1 over 1/10^9", x, x.over(7, 4), MOST, 1);
        due.fraction("1 over -10^9", x, x.over(7, 5), -1, MOST);
        due.fraction("-1 over -10^9", x, x.over(8, 5), 1, MOST);
        due.same("10^9 over 1/10^9", x.over(3, 4), -1);
        due.same("1/10^9 over 10^9", x.over(4, 3), -1);
        due.arithmetic("over(0, 2)", () -> x.over(0, 2));
        due.arithmetic("over(2, 2)", () -> x.over(2, 2));
        due.arithmetic("over(99, 2)", () -> x.over(99, 2));
        due.arithmetic("over(-1, 2)", () -> x.over(-1, 2));
        noSuchValues("over", x::over, 15);
        due.same("over keeps nothing that it refuses", x.over(7, 7), 15);
    }

    private static void noSuchValues(String call, IntBinaryOperator operation, int count) {
        int[][] wrong = {{0, count}, {count, 0}, {-1, 0}, {0, -1}, {Integer.MAX_VALUE, 0}, {0, Integer.MIN_VALUE}};
        for (int[] w : wrong) {
            due.same(call + "(" + w[0] + ", " + w[1] + ")", operation.applyAsInt(w[0], w[1]), -1);
        }
    }

    private static void order() {
        KilogramRows x = someValues();
        due.same("order(1/2, -1/3)", x.order(0, 1), 1);
        due.same("order(-1/3, 1/2)", x.order(1, 0), -1);
        due.same("order(1/2, 1/2)", x.order(0, 0), 0);
        due.same("order(-10^9, 10^9)", x.order(5, 3), -1);
        due.same("order(10^9, -10^9)", x.order(3, 5), 1);
        due.same("order(1/10^9, 1/(10^9-1))", x.order(4, 6), -1);
        due.same("order(1/(10^9-1), 1/10^9)", x.order(6, 4), 1);
        due.same("order(1, a later 1)", x.order(7, x.value(3, 3)), 0);
        due.same("order(-1, -10^9)", x.order(8, 5), 1);
        due.same("order(0, 99)", x.order(0, 99), -2);
        due.same("order(99, 0)", x.order(99, 0), -2);
        due.same("order(-1, 0)", x.order(-1, 0), -2);
        due.same("order(0, -1)", x.order(0, -1), -2);
        due.same("order(10, 10), no such", x.order(10, 10), -2);
    }

    private static void round() {
        long[][] rows = {
            // above, below, unit, by rule 0, 1, 2, 3
            {7, 2, 1, 3, 4, 4, 4}, {-7, 2, 1, -4, -3, -4, -4}, {5, 2, 1, 2, 3, 3, 2}, {-5, 2, 1, -3, -2, -3, -2},
            {1, 2, 1, 0, 1, 1, 0}, {-1, 2, 1, -1, 0, -1, 0}, {3, 1, 1, 3, 3, 3, 3}, {-3, 1, 1, -3, -3, -3, -3},
            {0, 1, 5, 0, 0, 0, 0}, {7, 3, 1, 2, 3, 2, 2}, {8, 3, 1, 2, 3, 3, 3}, {-7, 3, 1, -3, -2, -2, -2},
            {-8, 3, 1, -3, -2, -3, -3}, {15, 1, 10, 10, 20, 20, 20}, {25, 1, 10, 20, 30, 30, 20},
            {-15, 1, 10, -20, -10, -20, -20}, {-25, 1, 10, -30, -20, -30, -20}, {7, 2, 7, 0, 7, 7, 0},
            {21, 2, 7, 7, 14, 14, 14}, {20, 1, 10, 20, 20, 20, 20}, {14, 1, 4, 12, 16, 16, 16},
            {10, 1, 4, 8, 12, 12, 8}, {-14, 1, 4, -16, -12, -16, -16}, {-10, 1, 4, -12, -8, -12, -8},
            {9, 2, 3, 3, 6, 6, 6}, {-9, 2, 3, -6, -3, -6, -6}, {1499, 1000, 1, 1, 2, 1, 1}, {1501, 1000, 1, 1, 2, 2, 2}};
        for (long[] r : rows) {
            KilogramRows x = new KilogramRows(1);
            x.value(r[0], r[1]);
            for (int rule = 0; rule <= 3; rule++) {
                due.same("round(" + r[0] + "/" + r[1] + ", " + rule + ", " + r[2] + ")",
                    x.round(0, rule, r[2]), r[3 + rule]);
            }
        }
        roundOfNoneSuch();
    }

    private static void roundOfNoneSuch() {
        KilogramRows x = new KilogramRows(1);
        due.same("round of no value", x.round(0, 0, 1), NO_NUMBER);
        x.value(7, 2);
        due.same("round(0, -1, 1)", x.round(0, -1, 1), NO_NUMBER);
        due.same("round(0, 4, 1)", x.round(0, 4, 1), NO_NUMBER);
        due.same("round(0, 0, 0)", x.round(0, 0, 0), NO_NUMBER);
        due.same("round(0, 0, -1)", x.round(0, 0, -1), NO_NUMBER);
        due.same("round(0, 0, 10^9+1)", x.round(0, 0, MOST + 1), NO_NUMBER);
        due.same("round(0, 0, MIN)", x.round(0, 0, Long.MIN_VALUE), NO_NUMBER);
        due.same("round(0, 0, MAX)", x.round(0, 0, Long.MAX_VALUE), NO_NUMBER);
        due.same("round(0, 0, 2^32+1)", x.round(0, 0, (1L << 32) + 1), NO_NUMBER);
        due.same("round(-1, 0, 1)", x.round(-1, 0, 1), NO_NUMBER);
        due.same("round(1, 0, 1)", x.round(1, 0, 1), NO_NUMBER);
        due.same("rounding keeps no value", x.value(1, 1), 1);
    }

    private static void roundAtTheLimits() {
        KilogramRows x = new KilogramRows(1);
        x.value(MOST, 1);
        x.value(-MOST, 1);
        x.value(1, MOST);
        x.value(-1, MOST);
        x.value(MOST / 2, 1);
        x.value(-MOST / 2, 1);
        x.value(MOST - 1, MOST);
        long[][] byRule = {{MOST, MOST, MOST, MOST}, {-MOST, -MOST, -MOST, -MOST}, {0, MOST, 0, 0}, {-MOST, 0, 0, 0},
            {0, MOST, MOST, 0}, {-MOST, 0, -MOST, 0}, {0, MOST, 0, 0}};
        for (int a = 0; a < byRule.length; a++) {
            for (int rule = 0; rule <= 3; rule++) {
                due.same("round(" + a + ", " + rule + ", 10^9)", x.round(a, rule, MOST), byRule[a][rule]);
            }
        }
        due.same("10^9 down to 999999999", x.round(0, 0, MOST - 1), MOST - 1);
        due.same("10^9 up to 999999999", x.round(0, 1, MOST - 1), 2 * MOST - 2);
        due.same("-10^9 down to 999999999", x.round(1, 0, MOST - 1), -2 * MOST + 2);
    }

    private static void digit() {
        KilogramRows x = new KilogramRows(1);
        due.same("digit of no value", x.digit(0, 0, 0), -1);
        x.value(-9075, 1234567);
        int[] upper = {3, 6, 3, 2, 2, 7, 1, -1, -1, -1, -1};
        x.value(-1722363, 40);
        for (int i = 0; i < upper.length; i++) {
            due.same("digit " + i + " of 1722363", x.digit(1, 0, i), upper[i]);
        }
        due.same("digit 0 of 40", x.digit(1, 1, 0), 0);
        due.same("digit 1 of 40", x.digit(1, 1, 1), 4);
        due.same("digit 2 of 40", x.digit(1, 1, 2), -1);
        due.same("digit 2 of 9075", x.digit(0, 0, 2), 0);
        x.value(0, 5);
        due.same("digit 0 of 0", x.digit(2, 0, 0), 0);
        due.same("digit 1 of 0", x.digit(2, 0, 1), -1);
        x.value(-MOST, 1);
        x.value(1, MOST);
        for (int i = 0; i < 9; i++) {
            due.same("digit " + i + " of -10^9", x.digit(3, 0, i), 0);
            due.same("digit " + i + " of 10^9", x.digit(4, 1, i), 0);
        }
        due.same("digit 9 of -10^9", x.digit(3, 0, 9), 1);
        due.same("digit 9 of 10^9", x.digit(4, 1, 9), 1);
        due.same("digit 10 of 10^9", x.digit(4, 1, 10), -1);
        int[][] wrong = {{0, -1, 0}, {0, 2, 0}, {0, 0, -1}, {0, 0, Integer.MAX_VALUE}, {0, 0, Integer.MIN_VALUE},
            {-1, 0, 0}, {5, 0, 0}};
        for (int[] w : wrong) {
            due.same("digit(" + w[0] + ", " + w[1] + ", " + w[2] + ")", x.digit(w[0], w[1], w[2]), -1);
        }
    }
}
