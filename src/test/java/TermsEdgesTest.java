import java.util.LinkedHashMap;
import java.util.Map;
import java.util.function.ToIntFunction;

/** The sentences of the document's "Terms" that name a boundary case, each with a test of its own. */
public final class TermsEdgesTest {
    private static final long MOST = 1000000000L;
    private static final Due due = new Due();

    public static void main(String[] args) {
        valuesFromZeroOn();
        threeHundredValuesAtMost();
        theLastPlaceIsNotLost();
        lowestTerms();
        lowerNumberAboveZero();
        upperNumberOfMostSize();
        lowerNumberOfMostSize();
        greatProductsDoNotWrapRound();
        kindsFromZeroToTheLast();
        rowsFromZeroToTheLast();
        rowsHaveNoneAtFirst();
        roundingNotAbove();
        roundingNotBelow();
        roundingToTheNearestOutward();
        roundingToTheNearestEven();
        entriesOfFourRowsAndFiveColumns();
        entriesAreZeroAtFirst();
        oneToFourRowsAreSolved();
        eachSolvedRowHolds();
        onlyColumnsBelowTheRowsCount();
        anyFractionsOfRowsBefore();
        twelveWeightsAtMost();
        weightsOfZeroToAMillion();
        sharesAreCutDown();
        leftOnesToTheGreatestRests();
        leftOnesToTheLesserNumber();
        fiveHundredAndTwelveCalls();
        due.end();
    }

    /** All calls that make a value, on values 0 and 1 or on row 0, which has both. */
    private static Map<String, ToIntFunction<KilogramRows>> makers() {
        Map<String, ToIntFunction<KilogramRows>> makers = new LinkedHashMap<>();
        makers.put("value", x -> x.value(x.part(0, 0), x.part(0, 1)));
        makers.put("add", x -> x.add(0, 1));
        makers.put("less", x -> x.less(0, 1));
        makers.put("times", x -> x.times(0, 1));
        makers.put("over", x -> x.over(0, 1));
        makers.put("sum", x -> x.sum(0));
        return makers;
    }

    /** Values 0 and 1 as told, both in row 0. */
    private static KilogramRows two(long above, long below, long otherAbove, long otherBelow) {
        KilogramRows x = new KilogramRows(2);
        due.same("value 0", x.value(above, below), 0);
        due.same("value 1", x.value(otherAbove, otherBelow), 1);
        due.same("row 0", x.row(), 0);
        due.yes("put(0, 0, 0)", x.put(0, 0, 0));
        due.yes("put(0, 1, 1)", x.put(0, 1, 1));
        return x;
    }

    private static void makes(String maker, long[] from, long upper, long lower) {
        KilogramRows x = two(from[0], from[1], from[2], from[3]);
        String call = maker + " of " + from[0] + "/" + from[1] + ", " + from[2] + "/" + from[3];
        due.fraction(call, x, makers().get(maker).applyAsInt(x), upper, lower);
    }

    private static void makesNone(String maker, long[] from) {
        KilogramRows x = two(from[0], from[1], from[2], from[3]);
        String call = maker + " of " + from[0] + "/" + from[1] + ", " + from[2] + "/" + from[3];
        due.none(call, makers().get(maker).applyAsInt(x));
        due.outOfBounds(call + " keeps nothing", () -> x.part(2, 0));
        due.same(call + " uses no number", x.value(1, 1), 2);
    }

    private static long[] of(long above, long below, long otherAbove, long otherBelow) {
        return new long[] {above, below, otherAbove, otherBelow};
    }

    private static void valuesFromZeroOn() {
        due.sentence("VALUES are numbered from 0 on");
        due.same("the first value", new KilogramRows(1).value(5, 1), 0);
        makers().forEach((name, maker) -> {
            KilogramRows x = two(1, 2, 1, 3);
            for (int number = 2; number < 6; number++) {
                due.same(name, maker.applyAsInt(x), number);
            }
        });
    }

    private static KilogramRows filled(int count) {
        KilogramRows x = two(1, 2, 1, 3);
        for (int number = 2; number < count; number++) {
            due.same("value " + number, x.value(number, 1), number);
        }
        return x;
    }

    private static void threeHundredValuesAtMost() {
        due.sentence("VALUES are .., 300 at most");
        makers().forEach((name, maker) -> {
            KilogramRows x = filled(299);
            due.same(name + " makes the last", maker.applyAsInt(x), 299);
            int upper = x.part(299, 0);
            int lower = x.part(299, 1);
            due.none(name + " makes no more", maker.applyAsInt(x));
            due.none(name + " makes no more again", maker.applyAsInt(x));
            due.outOfBounds(name + ": there is no value 300", () -> x.part(300, 0));
            due.fraction(name + ": the last is as it was", x, 299, upper, lower);
            due.fraction(name + ": the first is as it was", x, 0, 1, 2);
        });
    }

    private static void theLastPlaceIsNotLost() {
        due.sentence("what would not be so is NONE, and nothing is kept");
        KilogramRows x = filled(297);
        due.same("10^9", x.value(MOST, 1), 297);
        due.same("1/10^9", x.value(1, MOST), 298);
        due.none("10^9 + 1", x.value(MOST + 1, 1));
        due.none("10^9 added to 10^9", x.add(297, 297));
        due.none("10^9 less 1/10^9", x.less(297, 298));
        due.none("10^9 times 10^9", x.times(297, 297));
        due.none("10^9 over 1/10^9", x.over(297, 298));
        x.put(0, 0, 297);
        due.none("sum of 10^9 and 1/3", x.sum(0));
        due.outOfBounds("nothing is kept", () -> x.part(299, 0));
        due.same("there is one place left", x.value(7, 7), 299);
        due.fraction("the last", x, 299, 1, 1);
    }

    private static void lowestTerms() {
        due.sentence("each a fraction in lowest terms");
        makes("add", of(1, 6, 1, 3), 1, 2);
        makes("less", of(5, 6, 1, 3), 1, 2);
        makes("times", of(2, 3, 3, 4), 1, 2);
        makes("over", of(2, 3, 4, 3), 1, 2);
        makes("sum", of(1, 6, 1, 3), 1, 2);
        makes("add", of(1, 3, -1, 3), 0, 1);
        makes("less", of(1, 3, 1, 3), 0, 1);
        makes("times", of(0, 1, 1, 3), 0, 1);
        makes("over", of(0, 1, 1, 3), 0, 1);
        makes("sum", of(1, 3, -1, 3), 0, 1);
        KilogramRows x = new KilogramRows(1);
        due.fraction("6/4", x, x.value(6, 4), 3, 2);
        due.fraction("0/7", x, x.value(0, 7), 0, 1);
        due.fraction("7/7", x, x.value(7, 7), 1, 1);
        due.fraction("MAX/MAX", x, x.value(Long.MAX_VALUE, Long.MAX_VALUE), 1, 1);
        due.fraction("10^18/10^9", x, x.value(MOST * MOST, MOST), MOST, 1);
    }

    private static void lowerNumberAboveZero() {
        due.sentence("its lower number above 0");
        KilogramRows x = new KilogramRows(1);
        due.fraction("1/-2", x, x.value(1, -2), -1, 2);
        due.fraction("-1/-2", x, x.value(-1, -2), 1, 2);
        due.fraction("0/-2", x, x.value(0, -2), 0, 1);
        due.fraction("MIN/MIN", x, x.value(Long.MIN_VALUE, Long.MIN_VALUE), 1, 1);
        due.fraction("0/MIN", x, x.value(0, Long.MIN_VALUE), 0, 1);
        due.fraction("2^62/MIN", x, x.value(1L << 62, Long.MIN_VALUE), -1, 2);
        makes("over", of(1, 1, -2, 1), -1, 2);
        makes("over", of(-1, 1, -2, 1), 1, 2);
        makes("over", of(-1, 1, 2, 1), -1, 2);
        makes("over", of(0, 1, -2, 1), 0, 1);
        makes("times", of(-1, 2, -1, 3), 1, 6);
        makes("times", of(0, 1, -1, 3), 0, 1);
        makes("less", of(1, 3, 1, 2), -1, 6);
    }

    private static void upperNumberOfMostSize() {
        due.sentence("both of 1000000000 at most in size (the upper one)");
        for (int sign = -1; sign <= 1; sign += 2) {
            long most = sign * MOST;
            KilogramRows x = new KilogramRows(1);
            due.fraction("value", x, x.value(most, 1), most, 1);
            due.fraction("value of more that can be cut", x, x.value(7 * most, 7), most, 1);
            due.fraction("value with both great", x, x.value(most, MOST - 1), most, MOST - 1);
            due.none("value, one more", x.value(most + sign, 1));
            due.none("value, one more with a great lower number", x.value(most + sign, MOST));
            due.none("value, 2^32 more", x.value(most + sign * (1L << 32), 1));
            makes("add", of(most - sign, 1, sign, 1), most, 1);
            makesNone("add", of(most, 1, sign, 1));
            makesNone("add", of(most, 1, most, 1));
            makes("less", of(most - sign, 1, -sign, 1), most, 1);
            makesNone("less", of(most, 1, -sign, 1));
            makes("times", of(31250, 1, sign * 32000, 1), most, 1);
            // 19019 times 52579 is 10^9 + 1.
            makesNone("times", of(19019, 1, sign * 52579, 1));
            makesNone("times", of(MOST, 1, most, 1));
            makes("over", of(31250, 1, sign, 32000), most, 1);
            makesNone("over", of(19019, 1, sign, 52579));
            makesNone("over", of(MOST, 1, sign, MOST));
            makes("sum", of(most - sign, 1, sign, 1), most, 1);
            makesNone("sum", of(most, 1, sign, 1));
        }
    }

    private static void lowerNumberOfMostSize() {
        due.sentence("both of 1000000000 at most in size (the lower one)");
        KilogramRows x = new KilogramRows(1);
        due.fraction("value", x, x.value(1, MOST), 1, MOST);
        due.fraction("value with a sign", x, x.value(1, -MOST), -1, MOST);
        due.fraction("value of more that can be cut", x, x.value(7, 7 * MOST), 1, MOST);
        due.fraction("value with both great", x, x.value(MOST - 1, MOST), MOST - 1, MOST);
        due.none("value, one more", x.value(1, MOST + 1));
        due.none("value, one more with a sign", x.value(1, -MOST - 1));
        due.none("value, one more with a great upper number", x.value(MOST, MOST + 1));
        due.none("value, 2^32 more", x.value(1, MOST + (1L << 32)));
        // 512 times 1953125 is 10^9, 19019 times 52579 is 10^9 + 1, and both pairs have no common divisor.
        makes("add", of(1, 512, 1, 1953125), 1953637, MOST);
        makesNone("add", of(1, 19019, 1, 52579));
        makes("less", of(1, 512, 1, 1953125), 1952613, MOST);
        makesNone("less", of(1, 19019, 1, 52579));
        makes("times", of(1, 512, -1, 1953125), -1, MOST);
        makesNone("times", of(1, 19019, -1, 52579));
        makesNone("times", of(1, MOST, 1, MOST));
        makes("over", of(1, 512, -1953125, 1), -1, MOST);
        makesNone("over", of(1, 19019, -52579, 1));
        makesNone("over", of(1, MOST, MOST, 1));
        makes("sum", of(1, 512, 1, 1953125), 1953637, MOST);
        makesNone("sum", of(1, 19019, 1, 52579));
    }

    private static void greatProductsDoNotWrapRound() {
        due.sentence("what would not be so is NONE (numbers of 10^18 on the way)");
        for (int sign = -1; sign <= 1; sign += 2) {
            long[] turned = of(sign * MOST, MOST - 1, MOST - 1, MOST);
            makesNone("add", turned);
            makesNone("less", turned);
            makes("times", turned, sign, 1);
            makesNone("over", turned);
            makesNone("sum", turned);
            long[] same = of(sign * MOST, MOST - 1, sign * MOST, MOST - 1);
            makesNone("add", same);
            makes("less", same, 0, 1);
            makesNone("times", same);
            makes("over", same, 1, 1);
            makesNone("sum", same);
            long[] against = of(sign * (MOST - 1), MOST, -sign * (MOST - 1), MOST);
            makes("add", against, 0, 1);
            makes("less", against, sign * (MOST - 1), MOST / 2);
            makesNone("times", against);
            makes("over", against, -1, 1);
            makes("sum", against, 0, 1);
        }
    }

    private static void kindsFromZeroToTheLast() {
        due.sentence("KINDS are 0 .. N - 1");
        for (int n = 1; n <= 16; n++) {
            KilogramRows x = new KilogramRows(n);
            x.value(1, 2);
            x.row();
            int kinds = n;
            due.yes("the first of " + n, x.put(0, 0, 0));
            due.yes("the last of " + n, x.put(0, n - 1, 0));
            due.same("the first of " + n, x.at(0, 0), 0);
            due.same("the last of " + n, x.at(0, n - 1), 0);
            due.outOfBounds("put of one behind " + n, () -> x.put(0, kinds, 0) ? 1 : 0);
            due.outOfBounds("put of one before 0", () -> x.put(0, -1, 0) ? 1 : 0);
            due.outOfBounds("at of one behind " + n, () -> x.at(0, kinds));
            due.outOfBounds("at of one before 0", () -> x.at(0, -1));
        }
    }

    private static void rowsFromZeroToTheLast() {
        due.sentence("ROWS are numbered from 0 on, 20 at most");
        for (int kinds = 1; kinds <= 16; kinds += 15) {
            KilogramRows x = new KilogramRows(kinds);
            x.value(1, 2);
            int last = kinds - 1;
            for (int row = 0; row < 20; row++) {
                due.no("row " + row + " is not yet there", x.put(row, 0, 0));
                due.same("row " + row, x.row(), row);
                due.yes("row " + row + " is there", x.put(row, last, 0));
            }
            due.none("a row 20", x.row());
            due.no("row 20 is not there", x.put(20, 0, 0));
            due.none("row 20 is not there", x.at(20, 0));
            due.none("row 20 is not there", x.sum(20));
            due.same("row 19 is there", x.at(19, last), 0);
        }
    }

    private static void rowsHaveNoneAtFirst() {
        due.sentence("each with a value's number for each kind, or none (at first)");
        KilogramRows x = new KilogramRows(16);
        x.value(1, 2);
        for (int row = 0; row < 14; row++) {
            x.row();
            for (int kind = 0; kind < 16; kind++) {
                due.none("row " + row + ", kind " + kind, x.at(row, kind));
            }
            for (int kind = 0; kind < 16 && row == 0; kind++) {
                x.put(row, kind, 0);
            }
        }
        for (int kind = 0; kind < 16; kind++) {
            due.same("row 0, kind " + kind, x.at(0, kind), 0);
        }
    }

    private static void rounded(int rule, long[][] table) {
        for (long[] t : table) {
            KilogramRows x = new KilogramRows(1);
            x.value(t[0], t[1]);
            due.same("round(" + t[0] + "/" + t[1] + ", " + rule + ", " + t[2] + ")", x.round(0, rule, t[2]), t[3]);
        }
    }

    private static void roundingNotAbove() {
        due.sentence("rule 0 not above the value");
        rounded(0, new long[][] {{5, 2, 1, 2}, {-5, 2, 1, -3}, {3, 1, 1, 3}, {-3, 1, 1, -3}, {0, 1, 7, 0},
            {1, MOST, 1, 0},
            {-1, MOST, 1, -1}, {MOST - 1, MOST, 1, 0}, {6, 1, 3, 6}, {-6, 1, 3, -6}, {5, 1, 3, 3}, {-5, 1, 3, -6},
            {MOST, 1, MOST, MOST}, {-MOST, 1, MOST, -MOST}, {-1, MOST, MOST, -MOST}, {MOST, 1, 1, MOST},
            {-MOST, 1, MOST - 1, -2 * MOST + 2}});
    }

    private static void roundingNotBelow() {
        due.sentence("rule 1 not below it");
        rounded(1, new long[][] {{5, 2, 1, 3}, {-5, 2, 1, -2}, {3, 1, 1, 3}, {-3, 1, 1, -3}, {0, 1, 7, 0},
            {1, MOST, 1, 1},
            {-1, MOST, 1, 0}, {1 - MOST, MOST, 1, 0}, {6, 1, 3, 6}, {-6, 1, 3, -6}, {5, 1, 3, 6}, {-5, 1, 3, -3},
            {MOST, 1, MOST, MOST}, {-MOST, 1, MOST, -MOST}, {1, MOST, MOST, MOST}, {-MOST, 1, 1, -MOST},
            {MOST, 1, MOST - 1, 2 * MOST - 2}});
    }

    private static void roundingToTheNearestOutward() {
        due.sentence("rule 2 nearest (of two the one further from 0)");
        rounded(2, new long[][] {{5, 2, 1, 3}, {-5, 2, 1, -3}, {3, 2, 1, 2}, {-3, 2, 1, -2}, {1, 2, 1, 1}, {-1, 2, 1, -1},
            {5, 1, 10, 10}, {-5, 1, 10, -10}, {15, 1, 10, 20}, {-15, 1, 10, -20}, {3, 2, 3, 3}, {-3, 2, 3, -3},
            {7, 3, 1, 2}, {8, 3, 1, 3}, {-7, 3, 1, -2}, {-8, 3, 1, -3}, {0, 1, 9, 0}, {4, 1, 1, 4},
            {MOST / 2, 1, MOST, MOST}, {-MOST / 2, 1, MOST, -MOST}, {MOST / 2 - 1, 1, MOST, 0},
                {1 - MOST / 2, 1, MOST, 0},
            {499999999, MOST, 1, 0}, {500000001, MOST, 1, 1}, {-499999999, MOST, 1, 0}, {-500000001, MOST, 1, -1}});
    }

    private static void roundingToTheNearestEven() {
        due.sentence("rule 3 nearest (of two the even multiple)");
        rounded(3, new long[][] {{5, 2, 1, 2}, {-5, 2, 1, -2}, {3, 2, 1, 2}, {-3, 2, 1, -2}, {1, 2, 1, 0}, {-1, 2, 1, 0},
            {5, 1, 10, 0}, {-5, 1, 10, 0}, {15, 1, 10, 20}, {-15, 1, 10, -20}, {3, 2, 3, 0}, {9, 2, 3, 6}, {-9, 2, 3, -6},
            {15, 2, 3, 6}, {-15, 2, 3, -6}, {7, 3, 1, 2}, {8, 3, 1, 3}, {-7, 3, 1, -2}, {-8, 3, 1, -3}, {0, 1, 9, 0},
            {5, 1, 1, 5}, {MOST / 2, 1, MOST, 0}, {-MOST / 2, 1, MOST, 0}, {MOST / 2 + 1, 1, MOST, MOST},
            {-MOST / 2 - 1, 1, MOST, -MOST}, {499999999, MOST, 1, 0}, {500000001, MOST, 1, 1},
                {-500000001, MOST, 1, -1}});
    }

    private static KilogramRows system(int[]... rows) {
        KilogramRows x = new KilogramRows(1);
        for (int i = 0; i < rows.length; i++) {
            for (int j = 0; j < rows[i].length; j++) {
                due.yes("entry(" + i + ", " + j + ", " + rows[i][j] + ")", x.entry(i, j, rows[i][j]));
            }
        }
        return x;
    }

    private static int[] entries(int... entries) {
        return entries;
    }

    private static void answers(KilogramRows x, long... want) {
        for (int k = 0; 2 * k < want.length; k++) {
            due.same("x " + k + ", upper", x.answer(k, 0), want[2 * k]);
            due.same("x " + k + ", lower", x.answer(k, 1), want[2 * k + 1]);
        }
        due.noNumber("no x more", x.answer(want.length / 2, 0));
    }

    private static void entriesOfFourRowsAndFiveColumns() {
        due.sentence("entries of row i and column j, i of 0 .. 3, j of 0 .. 4");
        KilogramRows x = new KilogramRows(1);
        for (int i = -1; i <= 4; i++) {
            for (int j = -1; j <= 5; j++) {
                boolean there = i >= 0 && i <= 3 && j >= 0 && j <= 4;
                due.same("entry(" + i + ", " + j + ")", x.entry(i, j, i == j ? 1 : j == 4 ? i + 5 : 0) ? 1 : 0,
                    there ? 1 : 0);
            }
        }
        due.same("solve(4)", x.solve(4), 0);
        answers(x, 5, 1, 6, 1, 7, 1, 8, 1);
    }

    private static void entriesAreZeroAtFirst() {
        due.sentence("are whole numbers, 0 at first");
        KilogramRows x = new KilogramRows(1);
        for (int rows = 1; rows <= 4; rows++) {
            due.same("solve(" + rows + "): row 0 is all 0", x.solve(rows), 1);
        }
        for (int i = 0; i < 4; i++) {
            x.entry(i, i, 1);
        }
        due.same("solve(4)", x.solve(4), 0);
        answers(x, 0, 1, 0, 1, 0, 1, 0, 1);
        x.entry(3, 4, 9);
        due.same("solve(4)", x.solve(4), 0);
        answers(x, 0, 1, 0, 1, 0, 1, 9, 1);
    }

    private static void oneToFourRowsAreSolved() {
        due.sentence("SOLVING the first R rows (1 .. 4)");
        KilogramRows x = system(entries(1, 0, 0, 0, 5), entries(0, 1, 0, 0, 6), entries(0, 0, 1, 0, 7),
            entries(0, 0, 0, 1, 8));
        due.none("solve(0)", x.solve(0));
        due.noNumber("nothing is solved", x.answer(0, 0));
        due.same("solve(1)", x.solve(1), 0);
        answers(x, 5, 1);
        due.same("solve(2)", x.solve(2), 0);
        answers(x, 5, 1, 6, 1);
        due.same("solve(3)", x.solve(3), 0);
        answers(x, 5, 1, 6, 1, 7, 1);
        due.same("solve(4)", x.solve(4), 0);
        answers(x, 5, 1, 6, 1, 7, 1, 8, 1);
        due.none("solve(5)", x.solve(5));
        due.none("solve(-1)", x.solve(-1));
        answers(x, 5, 1, 6, 1, 7, 1, 8, 1);
    }

    private static void eachSolvedRowHolds() {
        due.sentence("the sum of its entries j times x j, j below R, being its entry 4");
        KilogramRows x = system(entries(2, 3, 90, 91, 13), entries(4, -1, 92, 93, 5), entries(94, 95, 96, 97, 98));
        due.same("solve(2)", x.solve(2), 0);
        answers(x, 2, 1, 3, 1);
        due.same("solve(1)", x.solve(1), 0);
        answers(x, 13, 2);
        KilogramRows turned = system(entries(0, 0, 0, 5, 1), entries(0, 0, 4, 0, 2), entries(0, -3, 0, 0, 3),
            entries(-2, 0, 0, 0, 4));
        due.same("solve(4)", turned.solve(4), 0);
        answers(turned, -2, 1, -1, 1, 1, 2, 1, 5);
        int h = 100;
        KilogramRows great = system(entries(h, h, h, h, h), entries(h, -h, h, -h, -h),
            entries(h, h, -h, -h, h), entries(h, -h, -h, h, h));
        due.same("solve(4) of the greatest determinant", great.solve(4), 0);
        answers(great, 1, 2, 1, 2, -1, 2, 1, 2);
    }

    private static void onlyColumnsBelowTheRowsCount() {
        due.sentence("A row TELLS NOTHING NEW when, by its entries of columns below R alone");
        KilogramRows x = system(entries(1, 2, 0, 0, 0), entries(2, 4, 1, 0, 1), entries(0, 0, 0, 1, 0),
            entries(0, 1, 0, 0, 0));
        due.same("solve(2): column 2 is not below 2", x.solve(2), 2);
        due.same("solve(3): column 3 is not below 3", x.solve(3), 3);
        due.same("solve(4): all columns", x.solve(4), 0);
        KilogramRows side = system(entries(1, 1, 0, 0, 1), entries(1, 1, 0, 0, 2));
        due.same("solve(2): column 4 does not count", side.solve(2), 2);
        KilogramRows first = system(entries(0, 1, 1, 1, 1), entries(1, 0, 0, 0, 1));
        due.same("solve(1): row 0 by column 0 alone", first.solve(1), 1);
        due.same("solve(2): row 0 by columns 0 and 1", first.solve(2), 0);
    }

    private static void anyFractionsOfRowsBefore() {
        due.sentence("it is a sum of multiples (any fractions) of rows before it");
        KilogramRows half = system(entries(2, 4, 0, 0, 1), entries(1, 2, 0, 0, 1));
        due.same("a half of row 0", half.solve(2), 2);
        KilogramRows less = system(entries(3, -6, 0, 0, 1), entries(-2, 4, 0, 0, 1));
        due.same("-2/3 of row 0", less.solve(2), 2);
        KilogramRows two = system(entries(2, 0, 4, 0, 1), entries(0, 3, 0, 6, 1), entries(1, 1, 2, 2, 1),
            entries(0, 0, 0, 1, 1));
        due.same("1/2 of row 0 and 1/3 of row 1", two.solve(4), 3);
        KilogramRows three = system(entries(2, 0, 0, 4, 1), entries(0, 3, 0, 6, 1), entries(0, 0, 5, 10, 1),
            entries(1, 1, 1, 6, 1));
        due.same("1/2, 1/3 and 1/5 of the rows before", three.solve(4), 4);
        KilogramRows none = system(entries(1, 0, 0, 0, 1), entries(0, 0, 0, 0, 1), entries(0, 0, 0, 0, 1),
            entries(1, 0, 0, 0, 1));
        due.same("0 times row 0", none.solve(4), 2);
        KilogramRows behind = system(entries(1, 1, 0, 0, 1), entries(1, 0, 1, 0, 1), entries(2, 2, 0, 0, 1),
            entries(0, 0, 0, 1, 1));
        due.same("row 0 is a half of row 2, which is behind it", behind.solve(4), 3);
        KilogramRows nearly = system(entries(100, 99, 0, 0, 1), entries(99, 98, 0, 0, 1));
        due.same("nearly a multiple", nearly.solve(2), 0);
    }

    private static KilogramRows weighted(int... weights) {
        KilogramRows x = new KilogramRows(1);
        for (int i = 0; i < weights.length; i++) {
            due.same("weight(" + weights[i] + ")", x.weight(weights[i]), i + 1);
        }
        return x;
    }

    private static void shares(KilogramRows x, long whole, long... want) {
        for (int k = 0; k < want.length; k++) {
            due.same("share(" + whole + ", " + k + ")", x.share(whole, k), want[k]);
        }
        due.none("no share more", x.share(whole, want.length));
    }

    private static void twelveWeightsAtMost() {
        due.sentence("weights, 12 at most");
        KilogramRows x = weighted(1, 1, 1, 1, 1, 1, 1, 1, 1, 1, 1);
        shares(x, 11, 1, 1, 1, 1, 1, 1, 1, 1, 1, 1, 1);
        due.same("the last", x.weight(1), 12);
        due.none("one more", x.weight(1));
        due.none("one more of 0", x.weight(0));
        shares(x, 12, 1, 1, 1, 1, 1, 1, 1, 1, 1, 1, 1, 1);
    }

    private static void weightsOfZeroToAMillion() {
        due.sentence("weights, .. each of 0 .. 1000000");
        KilogramRows x = weighted(0, 1000000);
        due.none("weight(-1)", x.weight(-1));
        due.none("weight(1000001)", x.weight(1000001));
        due.none("weight(MAX)", x.weight(Integer.MAX_VALUE));
        due.none("weight(MIN)", x.weight(Integer.MIN_VALUE));
        due.same("the next", x.weight(1), 3);
        shares(x, 1000001, 0, 1000000, 1);
    }

    private static void sharesAreCutDown() {
        due.sentence("Of a whole w each gets w times its weight over all weights, down");
        shares(weighted(1, 2, 3), 6, 1, 2, 3);
        shares(weighted(1, 2, 3), 0, 0, 0, 0);
        // 9/10, 9/10 and 72/10: two are left, and the last has been cut down.
        shares(weighted(1, 1, 8), 9, 1, 1, 7);
        shares(weighted(0, 1), 1, 0, 1);
        shares(weighted(1000000, 999999), 1999999, 1000000, 999999);
        shares(weighted(1000000, 1000000), 1000000000000L, 500000000000L, 500000000000L);
    }

    private static void leftOnesToTheGreatestRests() {
        due.sentence("what is left goes by ones to those of whom the greatest rest was cut off");
        // 4 times 1, 3, 3 over 7 cuts off 4, 5, 5.
        shares(weighted(1, 3, 3), 4, 0, 2, 2);
        // 4 times 3, 1, 3 over 7 cuts off 5, 4, 5.
        shares(weighted(3, 1, 3), 4, 2, 0, 2);
        // 3 times 5, 6, 8 over 19 cuts off 15, 18, 5 and leaves two.
        shares(weighted(5, 6, 8), 3, 1, 1, 1);
        // 5 times 5, 6, 8 over 19 cuts off 6, 11, 2 and leaves one.
        shares(weighted(5, 6, 8), 5, 1, 2, 2);
        // The greatest rest, not the greatest weight: 51 times 99, 1 over 100 cuts off 49, 51.
        shares(weighted(1, 99), 1, 0, 1);
        shares(weighted(99, 1), 50, 50, 0);
        shares(weighted(99, 1), 51, 50, 1);
        // Nothing was cut off of the last one, and ten are left for the eleven before it.
        shares(weighted(1, 1, 1, 1, 1, 1, 1, 1, 1, 1, 1, 0), 10, 1, 1, 1, 1, 1, 1, 1, 1, 1, 1, 0, 0);
    }

    private static void leftOnesToTheLesserNumber() {
        due.sentence("of the same rests to the lesser number first");
        shares(weighted(1, 1), 1, 1, 0);
        shares(weighted(5, 5, 5), 4, 2, 1, 1);
        shares(weighted(5, 5, 5), 5, 2, 2, 1);
        // 2 times 4, 1, 4, 1 over 10 cuts off 8, 2, 8, 2 and leaves two.
        shares(weighted(4, 1, 4, 1), 2, 1, 0, 1, 0);
        // 3 times 4, 1, 1, 4 over 10 cuts off 2, 3, 3, 2 and leaves one.
        shares(weighted(4, 1, 1, 4), 3, 1, 1, 0, 1);
        // The same rests of unlike weights: 6 times 1, 3, 5, 3 over 12 cuts off 6 of each and leaves two.
        shares(weighted(1, 3, 5, 3), 6, 1, 2, 2, 1);
        // 2 times 1, 3 over 4 cuts off a half of both.
        shares(weighted(1, 3), 2, 1, 1);
        shares(weighted(3, 1), 2, 2, 0);
    }

    private static void fiveHundredAndTwelveCalls() {
        due.sentence("An object is used for at most 512 calls after it has been made");
        KilogramRows x = new KilogramRows(16);
        for (int i = 0; i < 300; i++) {
            due.same("value " + i, x.value(i, 301), i);
        }
        for (int row = 0; row < 20; row++) {
            due.same("row " + row, x.row(), row);
        }
        for (int k = 1; k <= 12; k++) {
            due.same("weight " + k, x.weight(k), k);
        }
        for (int i = 0; i < 4; i++) {
            for (int j = 0; j < 5; j++) {
                due.yes("entry(" + i + ", " + j + ")", x.entry(i, j, i == j || j == 4 ? i + 1 : 0));
            }
        }
        for (int row = 0; row < 20; row++) {
            due.yes("put in row " + row, x.put(row, row % 16, 299 - row));
        }
        for (int again = 0; again < 136; again++) {
            due.none("row " + again, x.row());
        }
        due.same("call 509", x.solve(4), 0);
        due.same("call 510", x.answer(3, 0), 1);
        due.same("call 511", x.share(78, 11), 12);
        due.same("call 512", x.at(19, 3), 280);
    }
}
