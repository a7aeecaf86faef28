import java.util.function.IntBinaryOperator;

/** The sentences of promises 1 to 10 that name a boundary case, each with a test of its own. */
public final class ValuesEdgesTest {
    private static final long MOST = 1000000000L;
    private static final int[] FAR = {Integer.MIN_VALUE, Integer.MAX_VALUE};
    private static final Due due = new Due();

    public static void main(String[] args) {
        oneToSixteenKinds();
        anotherNumberOfKindsIsOne();
        newObjectHasNothing();
        valueIsItsNumber();
        valueOverZeroThrows();
        valueOverZeroThrowsAlsoAtThreeHundred();
        valueThatWouldNotBeSo();
        valueWhenThereAreThreeHundred();
        partUpperAndLower();
        partOfNoSuchValue();
        noSuchPart();
        addIsNoneLikewise();
        lessIsNoneLikewise();
        timesIsNoneLikewise();
        overIsNoneLikewise();
        overZeroThrowsWhateverAIs();
        overOfAZeroThatIsNotThere();
        order();
        orderOfNoneSuch();
        roundByTheRulesAndUnits();
        roundOfNoneSuch();
        digitFromTheLowestOn();
        digitOfZero();
        digitOfNoneSuch();
        due.end();
    }

    private static KilogramRows of(long... parts) {
        KilogramRows x = new KilogramRows(1);
        for (int i = 0; i + 1 < parts.length; i += 2) {
            due.same("value(" + parts[i] + ", " + parts[i + 1] + ")", x.value(parts[i], parts[i + 1]), i / 2);
        }
        return x;
    }

    /** 300 values: 0, 1/7, 2/7, .. */
    private static KilogramRows full() {
        KilogramRows x = new KilogramRows(1);
        for (int i = 0; i < 300; i++) {
            due.same("value " + i, x.value(i, 7), i);
        }
        return x;
    }

    private static void hasKinds(int told, int kinds) {
        KilogramRows x = new KilogramRows(told);
        x.row();
        for (int kind = 0; kind < kinds; kind++) {
            due.none("of " + told + " kind " + kind, x.at(0, kind));
            due.yes("of " + told + " kind " + kind, x.put(0, kind, -1));
        }
        due.outOfBounds("of " + told + " no kind more", () -> x.at(0, kinds));
        due.outOfBounds("of " + told + " no kind more", () -> x.put(0, kinds, -1) ? 1 : 0);
        due.outOfBounds("of " + told + " no kind -1", () -> x.at(0, -1));
    }

    private static void oneToSixteenKinds() {
        due.sentence("Promise 1: kinds of 1 .. 16");
        for (int kinds = 1; kinds <= 16; kinds++) {
            hasKinds(kinds, kinds);
        }
    }

    private static void anotherNumberOfKindsIsOne() {
        due.sentence("Promise 1: (of another number 1)");
        for (int kinds : new int[] {0, 17, -1, 18, -16, 100, FAR[0], FAR[1]}) {
            hasKinds(kinds, 1);
        }
    }

    private static void newObjectHasNothing() {
        due.sentence("Promise 1: No values, rows, weights; all entries 0.");
        KilogramRows x = new KilogramRows(4);
        due.outOfBounds("no value", () -> x.part(0, 0));
        due.same("no value", x.order(0, 0), -2);
        due.none("no value", x.add(0, 0));
        due.none("no row", x.at(0, 0));
        due.no("no row", x.put(0, 0, -1));
        due.none("no row", x.sum(0));
        due.none("no weight", x.share(1, 0));
        due.noNumber("nothing solved", x.answer(0, 0));
        for (int rows = 1; rows <= 4; rows++) {
            due.same("solve(" + rows + ") of entries 0", x.solve(rows), 1);
        }
        due.same("the first value", x.value(1, 1), 0);
        due.same("the first row", x.row(), 0);
        due.same("the first weight", x.weight(1), 1);
    }

    private static void valueIsItsNumber() {
        due.sentence("Promise 2: above over below: its number.");
        KilogramRows x = new KilogramRows(1);
        due.same("the first", x.value(2, 3), 0);
        due.same("the same once more", x.value(2, 3), 1);
        due.same("the same, not yet cut", x.value(-4, -6), 2);
        due.same("order of the first and the last", x.order(0, 2), 0);
        due.same("another", x.value(3, 2), 3);
        due.fraction("the first", x, 0, 2, 3);
        due.fraction("the other", x, 3, 3, 2);
    }

    private static void valueOverZeroThrows() {
        due.sentence("Promise 2: ArithmeticException: below is 0");
        KilogramRows x = new KilogramRows(1);
        for (long above : new long[] {0, 1, -1, MOST, MOST + 1, Long.MAX_VALUE, Long.MIN_VALUE}) {
            due.arithmetic("value(" + above + ", 0)", () -> x.value(above, 0));
        }
        due.same("the first that is kept", x.value(0, 1), 0);
    }

    private static void valueOverZeroThrowsAlsoAtThreeHundred() {
        due.sentence("Promise 2: below is 0 (also when there are 300)");
        KilogramRows x = full();
        for (long above : new long[] {0, 1, -1, MOST + 1, Long.MIN_VALUE}) {
            due.arithmetic("value(" + above + ", 0)", () -> x.value(above, 0));
        }
        due.fraction("the last is as it was", x, 299, 299, 7);
    }

    private static void valueThatWouldNotBeSo() {
        due.sentence("Promise 2: NONE when it would not be so");
        KilogramRows x = new KilogramRows(1);
        long max = Long.MAX_VALUE;
        long min = Long.MIN_VALUE;
        long[][] wrong = {{MOST + 1, 1}, {-MOST - 1, 1}, {1, MOST + 1}, {1, -MOST - 1}, {min, 1}, {min, -1}, {1, min},
            {-1, min}, {max, 1}, {max, -1}, {1, max}, {min, max}, {max, min}, {min + 1, min}, {2 * MOST + 1, 2},
            {1L << 32, 1}, {1, 1L << 32}, {(1L << 32) + 1, 1}, {1, (1L << 32) + 1}, {MOST * MOST + 1, MOST}};
        for (long[] w : wrong) {
            due.none("value(" + w[0] + ", " + w[1] + ")", x.value(w[0], w[1]));
        }
        due.same("the first that is kept", x.value(MOST, MOST - 1), 0);
    }

    private static void valueWhenThereAreThreeHundred() {
        due.sentence("Promise 2: NONE when .. there are 300");
        KilogramRows x = full();
        due.none("value(1, 1)", x.value(1, 1));
        due.none("value(0, 1), which is there", x.value(0, 1));
        due.none("value(10^9 + 1, 1)", x.value(MOST + 1, 1));
        due.outOfBounds("part(300, 0)", () -> x.part(300, 0));
        due.fraction("the last is as it was", x, 299, 299, 7);
        due.fraction("the first is as it was", x, 0, 0, 1);
    }

    private static void partUpperAndLower() {
        due.sentence("Promise 3: The upper (part = 0) or lower number (1) of a value.");
        KilogramRows x = of(-MOST, MOST - 1, MOST - 1, -MOST, 0, -5, 6, 4);
        due.fraction("-10^9/(10^9-1)", x, 0, -MOST, MOST - 1);
        due.fraction("(10^9-1)/-10^9", x, 1, 1 - MOST, MOST);
        due.fraction("0/-5", x, 2, 0, 1);
        due.fraction("6/4", x, 3, 3, 2);
    }

    private static void partOfNoSuchValue() {
        due.sentence("Promise 3: IndexOutOfBoundsException: there is no such value");
        KilogramRows empty = new KilogramRows(1);
        due.outOfBounds("part(0, 0) of no values", () -> empty.part(0, 0));
        due.outOfBounds("part(-1, 0) of no values", () -> empty.part(-1, 0));
        KilogramRows x = of(1, 2, 3, 4);
        for (int v : new int[] {-1, 2, 3, 299, 300, FAR[0], FAR[1]}) {
            due.outOfBounds("part(" + v + ", 0)", () -> x.part(v, 0));
            due.outOfBounds("part(" + v + ", 1)", () -> x.part(v, 1));
        }
        KilogramRows full = full();
        due.same("part(299, 0) of 300", full.part(299, 0), 299);
        due.outOfBounds("part(300, 0) of 300", () -> full.part(300, 0));
    }

    private static void noSuchPart() {
        due.sentence("Promise 3: IndexOutOfBoundsException: there is no such .. part");
        KilogramRows x = of(1, 2);
        for (int part : new int[] {-1, 2, 3, FAR[0], FAR[1]}) {
            due.outOfBounds("part(0, " + part + ")", () -> x.part(0, part));
            due.outOfBounds("part(1, " + part + "), no value either", () -> x.part(1, part));
        }
    }

    private static void noneSuch(String name, KilogramRows x, IntBinaryOperator call, int count) {
        for (int wrong : new int[] {-1, -2, count, count + 1, 299, 300, FAR[0], FAR[1]}) {
            due.none(name + "(0, " + wrong + ")", call.applyAsInt(0, wrong));
            due.none(name + "(" + wrong + ", 0)", call.applyAsInt(wrong, 0));
            due.none(name + "(" + wrong + ", " + wrong + ")", call.applyAsInt(wrong, wrong));
        }
        due.same(name + " kept nothing", x.value(1, 1), count);
    }

    private static void noneOfNoValues(String name, KilogramRows empty, IntBinaryOperator call) {
        due.none(name + "(0, 0) of no values", call.applyAsInt(0, 0));
        due.none(name + "(-1, -1) of no values", call.applyAsInt(-1, -1));
        due.same(name + " kept nothing", empty.value(1, 1), 0);
    }

    private static void addIsNoneLikewise() {
        due.sentence("Promise 4: NONE likewise, or when there are none such.");
        KilogramRows x = of(MOST, 1, 1, 1, -1, 1, 1, MOST, -MOST, 1);
        due.none("10^9 + 1", x.add(0, 1));
        due.none("1 + 10^9", x.add(1, 0));
        due.none("10^9 + 1/10^9", x.add(0, 3));
        due.none("-10^9 + -1", x.add(4, 2));
        due.none("-10^9 + 1/10^9", x.add(4, 3));
        noneSuch("add", x, x::add, 5);
        due.fraction("10^9 + -1", x, x.add(0, 2), MOST - 1, 1);
        due.fraction("10^9 + -10^9", x, x.add(0, 4), 0, 1);
        KilogramRows full = full();
        due.none("add of 300", full.add(1, 2));
        KilogramRows empty = new KilogramRows(1);
        noneOfNoValues("add", empty, empty::add);
    }

    private static void lessIsNoneLikewise() {
        due.sentence("Promise 5: a less b, likewise.");
        KilogramRows x = of(MOST, 1, 1, 1, -1, 1, 1, MOST, -MOST, 1);
        due.none("10^9 less -1", x.less(0, 2));
        due.none("-10^9 less 1", x.less(4, 1));
        due.none("-1 less 10^9", x.less(2, 0));
        due.none("10^9 less 1/10^9", x.less(0, 3));
        due.none("10^9 less -10^9", x.less(0, 4));
        noneSuch("less", x, x::less, 5);
        due.fraction("10^9 less 1", x, x.less(0, 1), MOST - 1, 1);
        due.fraction("1 less 10^9", x, x.less(1, 0), 1 - MOST, 1);
        due.fraction("10^9 less 10^9", x, x.less(0, 0), 0, 1);
        KilogramRows full = full();
        due.none("less of 300", full.less(1, 2));
        KilogramRows empty = new KilogramRows(1);
        noneOfNoValues("less", empty, empty::less);
    }

    private static void timesIsNoneLikewise() {
        due.sentence("Promise 6: a times b, likewise.");
        KilogramRows x = of(MOST, 1, 2, 1, 1, 2, 1, MOST, -MOST, 1);
        due.none("10^9 times 2", x.times(0, 1));
        due.none("2 times -10^9", x.times(1, 4));
        due.none("1/10^9 times 1/2", x.times(3, 2));
        due.none("10^9 times 10^9", x.times(0, 0));
        due.none("1/10^9 times 1/10^9", x.times(3, 3));
        noneSuch("times", x, x::times, 5);
        due.fraction("10^9 times 1/10^9", x, x.times(0, 3), 1, 1);
        due.fraction("-10^9 times 1/2", x, x.times(4, 2), -MOST / 2, 1);
        KilogramRows full = full();
        due.none("times of 300", full.times(1, 2));
        KilogramRows empty = new KilogramRows(1);
        noneOfNoValues("times", empty, empty::times);
    }

    private static void overIsNoneLikewise() {
        due.sentence("Promise 7: a over b, likewise.");
        KilogramRows x = of(MOST, 1, 2, 1, 1, 2, 1, MOST, -MOST, 1);
        due.none("10^9 over 1/2", x.over(0, 2));
        due.none("-10^9 over 1/2", x.over(4, 2));
        due.none("1/10^9 over 2", x.over(3, 1));
        due.none("10^9 over 1/10^9", x.over(0, 3));
        due.none("1/10^9 over -10^9", x.over(3, 4));
        noneSuch("over", x, x::over, 5);
        due.fraction("2 over 10^9", x, x.over(1, 0), 1, MOST / 2);
        due.fraction("10^9 over -10^9", x, x.over(0, 4), -1, 1);
        KilogramRows full = full();
        due.none("over of 300", full.over(1, 2));
        KilogramRows empty = new KilogramRows(1);
        noneOfNoValues("over", empty, empty::over);
    }

    private static void overZeroThrowsWhateverAIs() {
        due.sentence("Promise 7: ArithmeticException: b is there and is 0 (whatever a is).");
        KilogramRows x = of(0, 1, 5, 1, -5, 3, MOST, 1);
        for (int a : new int[] {0, 1, 2, 3, 4, -1, -2, 299, 300, FAR[0], FAR[1]}) {
            due.arithmetic("over(" + a + ", 0)", () -> x.over(a, 0));
        }
        due.fraction("5 less 5 is 0 too", x, x.less(1, 1), 0, 1);
        due.arithmetic("over(1, 4)", () -> x.over(1, 4));
        due.fraction("0 over 5", x, x.over(0, 1), 0, 1);
        due.same("nothing was kept by what threw", x.value(1, 1), 6);
        KilogramRows full = full();
        due.arithmetic("over(1, 0) of 300", () -> full.over(1, 0));
        due.arithmetic("over(300, 0) of 300", () -> full.over(300, 0));
    }

    private static void overOfAZeroThatIsNotThere() {
        due.sentence("Promise 7: b is there");
        KilogramRows x = of(5, 1);
        due.none("over(0, 1), no b", x.over(0, 1));
        due.none("over(1, 1), no a and no b", x.over(1, 1));
        due.none("over(0, -1), no b", x.over(0, -1));
        x.value(0, 1);
        due.arithmetic("over(0, 1), now there", () -> x.over(0, 1));
        due.none("over(1, 2), a is 0 and no b", x.over(1, 2));
    }

    private static void order() {
        due.sentence("Promise 8: -1, 0, 1 when a is less than b, the same, more");
        KilogramRows x = of(-MOST, 1, 1 - MOST, MOST, -1, MOST, 0, 1, 1, MOST, 1, MOST - 1, MOST - 2, MOST - 1, MOST - 1, MOST,
            1, 1, MOST, 1);
        for (int a = 0; a < 10; a++) {
            for (int b = 0; b < 10; b++) {
                due.same("order(" + a + ", " + b + ")", x.order(a, b), Integer.compare(a, b));
            }
        }
        due.same("two of the same", x.order(8, x.value(9, 9)), 0);
        due.same("two of the same 0", x.order(3, x.value(0, -9)), 0);
    }

    private static void orderOfNoneSuch() {
        due.sentence("Promise 8: -2 when there are none such.");
        KilogramRows x = of(1, 2, 1, 3);
        for (int wrong : new int[] {-1, -2, 2, 3, 299, 300, FAR[0], FAR[1]}) {
            due.same("order(0, " + wrong + ")", x.order(0, wrong), -2);
            due.same("order(" + wrong + ", 0)", x.order(wrong, 0), -2);
            due.same("order(" + wrong + ", " + wrong + ")", x.order(wrong, wrong), -2);
        }
        due.same("order(0, 0) of no values", new KilogramRows(1).order(0, 0), -2);
        KilogramRows full = full();
        due.same("order(299, 298) of 300", full.order(299, 298), 1);
        due.same("order(299, 300) of 300", full.order(299, 300), -2);
    }

    private static void roundByTheRulesAndUnits() {
        due.sentence("Promise 9: A value rounded by a rule 0 .. 3 to a unit of 1 .. 1000000000");
        KilogramRows x = of(7, 2, MOST, 1, -MOST, 1, 1, MOST);
        long[][] byRule = {{3, 4, 4, 4}, {MOST, MOST, MOST, MOST}, {-MOST, -MOST, -MOST, -MOST}, {0, 1, 0, 0}};
        long[][] great = {{0, MOST, 0, 0}, {MOST, MOST, MOST, MOST}, {-MOST, -MOST, -MOST, -MOST}, {0, MOST, 0, 0}};
        for (int a = 0; a < 4; a++) {
            for (int rule = 0; rule < 4; rule++) {
                due.same("round(" + a + ", " + rule + ", 1)", x.round(a, rule, 1), byRule[a][rule]);
                due.same("round(" + a + ", " + rule + ", 10^9)", x.round(a, rule, MOST), great[a][rule]);
            }
        }
        due.same("2 * 999999999 is not cut short", x.round(1, 1, MOST - 1), 2 * MOST - 2);
    }

    private static void roundOfNoneSuch() {
        due.sentence("Promise 9: Long.MIN_VALUE when there are none such.");
        KilogramRows x = of(7, 2);
        due.noNumber("round(0, 0, 1) of no values", new KilogramRows(1).round(0, 0, 1));
        for (int a : new int[] {-1, 1, 2, 299, 300, FAR[0], FAR[1]}) {
            due.noNumber("round(" + a + ", 0, 1)", x.round(a, 0, 1));
        }
        for (int rule : new int[] {-1, 4, 5, FAR[0], FAR[1]}) {
            due.noNumber("round(0, " + rule + ", 1)", x.round(0, rule, 1));
        }
        long[] units = {0, -1, MOST + 1, -MOST, 1L << 32, (1L << 32) + 1, Long.MIN_VALUE, Long.MAX_VALUE};
        for (long unit : units) {
            for (int rule = 0; rule < 4; rule++) {
                due.noNumber("round(0, " + rule + ", " + unit + ")", x.round(0, rule, unit));
            }
        }
    }

    private static void digits(KilogramRows x, int a, int part, int... want) {
        for (int i = 0; i < want.length; i++) {
            due.same("digit(" + a + ", " + part + ", " + i + ")", x.digit(a, part, i), want[i]);
        }
        for (int i = want.length; i < want.length + 12; i++) {
            due.none("digit(" + a + ", " + part + ", " + i + ")", x.digit(a, part, i));
        }
    }

    private static void digitFromTheLowestOn() {
        due.sentence("Promise 10: without its sign (part = 0), or its lower number (1), from the lowest one (0) on");
        KilogramRows x = of(-907, 1230001, 907, 10, -MOST, 1, MOST - 1, MOST, 5, 9);
        digits(x, 0, 0, 7, 0, 9);
        digits(x, 0, 1, 1, 0, 0, 0, 3, 2, 1);
        digits(x, 1, 0, 7, 0, 9);
        digits(x, 1, 1, 0, 1);
        digits(x, 2, 0, 0, 0, 0, 0, 0, 0, 0, 0, 0, 1);
        digits(x, 2, 1, 1);
        digits(x, 3, 0, 9, 9, 9, 9, 9, 9, 9, 9, 9);
        digits(x, 3, 1, 0, 0, 0, 0, 0, 0, 0, 0, 0, 1);
        digits(x, 4, 0, 5);
        digits(x, 4, 1, 9);
    }

    private static void digitOfZero() {
        due.sentence("Promise 10: (of 0 it is one 0)");
        KilogramRows x = of(0, -8);
        digits(x, 0, 0, 0);
        digits(x, 0, 1, 1);
    }

    private static void digitOfNoneSuch() {
        due.sentence("Promise 10: NONE when there is none such.");
        KilogramRows x = of(123, 1);
        due.none("digit(0, 0, 0) of no values", new KilogramRows(1).digit(0, 0, 0));
        for (int a : new int[] {-1, 1, 2, 299, 300, FAR[0], FAR[1]}) {
            due.none("digit(" + a + ", 0, 0)", x.digit(a, 0, 0));
        }
        for (int part : new int[] {-1, 2, 3, FAR[0], FAR[1]}) {
            due.none("digit(0, " + part + ", 0)", x.digit(0, part, 0));
        }
        for (int i : new int[] {-1, -2, 3, 9, 10, 11, 32, FAR[0], FAR[1]}) {
            due.none("digit(0, 0, " + i + ")", x.digit(0, 0, i));
        }
    }
}
