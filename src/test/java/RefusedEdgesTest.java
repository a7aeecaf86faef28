import java.util.LinkedHashMap;
import java.util.Map;
import java.util.function.Supplier;
import java.util.function.ToLongFunction;

/**
 * The last sentence of "Terms". Each refused call is made on one of two twins, objects made by the same
 * calls; then both are asked for all that can be seen of them, and have to answer the same.
 */
public final class RefusedEdgesTest {
    private static final long MOST = 1000000000L;
    private static final int MAX = Integer.MAX_VALUE;
    private static final int MIN = Integer.MIN_VALUE;
    private static final Due due = new Due();

    public static void main(String[] args) {
        refusedWhenNew();
        refusedWhenPartlyFilled();
        refusedWhenFull();
        thrownWhenPartlyFilled();
        thrownWhenFull();
        askingChangesNothing();
        wrongInTwoWays();
        due.end();
    }

    private static KilogramRows fresh() {
        return new KilogramRows(3);
    }

    /** Values 1/2, 0, 10^9, 1/10^9, -7/3, -10^9; three rows; a solved system and other entries since; weights 3, 0, 4. */
    private static KilogramRows partlyFilled() {
        KilogramRows x = new KilogramRows(3);
        x.value(1, 2);
        x.value(0, 1);
        x.value(MOST, 1);
        x.value(1, MOST);
        x.value(-7, 3);
        x.value(-MOST, 1);
        x.row();
        x.row();
        x.row();
        x.put(0, 0, 4);
        x.put(0, 2, 0);
        x.put(1, 0, 2);
        x.put(1, 1, 3);
        tell(x, new int[][] {{2, 1, 0, 0, 5}, {1, -1, 0, 0, 3}, {3, 0, 0, 1, 1}, {0, 0, 1, 4, 9}});
        due.same("solve(2)", x.solve(2), 0);
        x.entry(0, 0, 7);
        x.weight(3);
        x.weight(0);
        x.weight(4);
        return x;
    }

    /** 300 values, the first three of them 0, 1/2, 10^9; 20 rows; a solved system; 12 weights. */
    private static KilogramRows full() {
        KilogramRows x = new KilogramRows(3);
        x.value(0, 1);
        x.value(1, 2);
        x.value(MOST, 1);
        for (int v = 3; v < 300; v++) {
            x.value(v, 7);
        }
        for (int row = 0; row < 20; row++) {
            x.row();
        }
        x.put(19, 2, 299);
        x.put(0, 0, 1);
        tell(x, new int[][] {{2, 1, 0, 0, 5}, {1, -1, 0, 0, 3}});
        due.same("solve(2)", x.solve(2), 0);
        for (int w = 1; w <= 12; w++) {
            x.weight(w);
        }
        return x;
    }

    private static void tell(KilogramRows x, int[][] rows) {
        for (int i = 0; i < rows.length; i++) {
            for (int j = 0; j < rows[i].length; j++) {
                x.entry(i, j, rows[i][j]);
            }
        }
    }

    /** All that can be seen; what the last asked calls make themselves they make in both twins. */
    private static String seen(KilogramRows x) {
        StringBuilder text = new StringBuilder();
        answers(text, x);
        for (int v : new int[] {0, 1, 2, 3, 4, 5, 6, 7, 297, 298, 299, 300}) {
            text.append(" value ").append(v).append(x.order(v, v) == 0 ? " " + x.part(v, 0) + "/" + x.part(v, 1) : " none");
        }
        for (int row : new int[] {0, 1, 2, 3, 19, 20}) {
            text.append(" row ").append(row);
            for (int kind = 0; kind < 3; kind++) {
                text.append(' ').append(x.at(row, kind));
            }
        }
        text.append(" shares");
        for (int k = 0; k <= 12; k++) {
            text.append(' ').append(x.share(1000, k));
        }
        for (int rows = 1; rows <= 4; rows++) {
            text.append(" solve ").append(x.solve(rows));
            answers(text, x);
        }
        text.append(" next ").append(x.value(1, 1)).append(' ').append(x.row()).append(' ').append(x.weight(1));
        return text.toString();
    }

    private static void answers(StringBuilder text, KilogramRows x) {
        text.append(" answers");
        for (int k = 0; k < 4; k++) {
            text.append(' ').append(x.answer(k, 0)).append('/').append(x.answer(k, 1));
        }
    }

    private static void changesNothing(Supplier<KilogramRows> maker, Map<String, ToLongFunction<KilogramRows>> calls, long want) {
        String untouched = seen(maker.get());
        calls.forEach((name, call) -> {
            KilogramRows x = maker.get();
            due.same(name, call.applyAsLong(x), want);
            sameSeen(name, seen(x), untouched);
        });
    }

    private static void sameSeen(String name, String got, String want) {
        due.yes(name + " changes nothing:\n  " + got + "\n  due\n  " + want, got.equals(want));
    }

    private static ToLongFunction<KilogramRows> put(int row, int kind, int v) {
        return x -> x.put(row, kind, v) ? 1 : -1;
    }

    private static ToLongFunction<KilogramRows> entry(int i, int j, int v) {
        return x -> x.entry(i, j, v) ? 1 : -1;
    }

    /** Calls that every object refuses, each with an answer that stands for false or none. */
    private static Map<String, ToLongFunction<KilogramRows>> alwaysRefused() {
        Map<String, ToLongFunction<KilogramRows>> calls = new LinkedHashMap<>();
        calls.put("value(10^9 + 1, 1)", x -> x.value(MOST + 1, 1));
        calls.put("value(1, 10^9 + 1)", x -> x.value(1, MOST + 1));
        calls.put("value(MIN, -1)", x -> x.value(Long.MIN_VALUE, -1));
        calls.put("add(0, 300)", x -> x.add(0, 300));
        calls.put("less(-1, 0)", x -> x.less(-1, 0));
        calls.put("times(MIN, MAX)", x -> x.times(MIN, MAX));
        calls.put("over(300, 300)", x -> x.over(300, 300));
        calls.put("put(20, 0, 0)", put(20, 0, 0));
        calls.put("put(20, 3, 0)", put(20, 3, 0));
        calls.put("put(-1, 0, -1)", put(-1, 0, -1));
        calls.put("sum(20)", x -> x.sum(20));
        calls.put("sum(-1)", x -> x.sum(-1));
        calls.put("entry(0, 0, 101)", entry(0, 0, 101));
        calls.put("entry(0, 4, -101)", entry(0, 4, -101));
        calls.put("entry(0, 5, 6)", entry(0, 5, 6));
        calls.put("entry(1, -1, 6)", entry(1, -1, 6));
        calls.put("entry(4, 0, 6)", entry(4, 0, 6));
        calls.put("entry(-1, 4, 6)", entry(-1, 4, 6));
        calls.put("solve(0)", x -> x.solve(0));
        calls.put("solve(5)", x -> x.solve(5));
        calls.put("solve(-1)", x -> x.solve(-1));
        calls.put("weight(-1)", x -> x.weight(-1));
        calls.put("weight(1000001)", x -> x.weight(1000001));
        calls.put("share(-1, 0)", x -> x.share(-1, 0));
        calls.put("share(10^12 + 1, 0)", x -> x.share(1000000000001L, 0));
        calls.put("share(1, 12)", x -> x.share(1, 12));
        calls.put("digit(0, 2, 0)", x -> x.digit(0, 2, 0));
        return calls;
    }

    private static void refusedWhenNew() {
        due.sentence("A call that is refused .. changes nothing (a new object)");
        Map<String, ToLongFunction<KilogramRows>> calls = alwaysRefused();
        calls.put("add(0, 0)", x -> x.add(0, 0));
        calls.put("put(0, 0, -1)", put(0, 0, -1));
        calls.put("put(0, 3, -1)", put(0, 3, -1));
        calls.put("sum(0)", x -> x.sum(0));
        calls.put("share(1, 0)", x -> x.share(1, 0));
        changesNothing(RefusedEdgesTest::fresh, calls, -1);
    }

    private static void refusedWhenPartlyFilled() {
        due.sentence("A call that is refused .. changes nothing (a partly filled object)");
        Map<String, ToLongFunction<KilogramRows>> calls = alwaysRefused();
        calls.put("add(2, 2)", x -> x.add(2, 2));
        calls.put("add(2, 3)", x -> x.add(2, 3));
        calls.put("less(2, 5)", x -> x.less(2, 5));
        calls.put("times(2, 5)", x -> x.times(2, 5));
        calls.put("over(2, 3)", x -> x.over(2, 3));
        calls.put("over(0, 6)", x -> x.over(0, 6));
        calls.put("put(0, 0, 6)", put(0, 0, 6));
        calls.put("put(0, 0, -2)", put(0, 0, -2));
        calls.put("put(2, 2, 300)", put(2, 2, 300));
        calls.put("put(3, 0, 0)", put(3, 0, 0));
        calls.put("sum(1), too great on the way", x -> x.sum(1));
        calls.put("sum(2) of none", x -> x.sum(2));
        calls.put("sum(3)", x -> x.sum(3));
        calls.put("share(1, 3)", x -> x.share(1, 3));
        changesNothing(RefusedEdgesTest::partlyFilled, calls, -1);
    }

    private static void refusedWhenFull() {
        due.sentence("A call that is refused .. changes nothing (a full object)");
        Map<String, ToLongFunction<KilogramRows>> calls = alwaysRefused();
        calls.put("value(1, 1)", x -> x.value(1, 1));
        calls.put("add(1, 1)", x -> x.add(1, 1));
        calls.put("less(1, 1)", x -> x.less(1, 1));
        calls.put("times(1, 1)", x -> x.times(1, 1));
        calls.put("over(1, 1)", x -> x.over(1, 1));
        calls.put("sum(0)", x -> x.sum(0));
        calls.put("row()", x -> x.row());
        calls.put("put(19, 2, 300)", put(19, 2, 300));
        calls.put("weight(5)", x -> x.weight(5));
        calls.put("weight(0)", x -> x.weight(0));
        changesNothing(RefusedEdgesTest::full, calls, -1);
    }

    private static void throwsAndChangesNothing(Supplier<KilogramRows> maker, Map<String, ToLongFunction<KilogramRows>> calls,
            boolean arithmetic) {
        String untouched = seen(maker.get());
        calls.forEach((name, call) -> {
            KilogramRows x = maker.get();
            if (arithmetic) {
                due.arithmetic(name, () -> call.applyAsLong(x));
            } else {
                due.outOfBounds(name, () -> call.applyAsLong(x));
            }
            sameSeen(name, seen(x), untouched);
        });
    }

    private static void thrownWhenPartlyFilled() {
        due.sentence("A call that .. throws, changes nothing (a partly filled object)");
        Map<String, ToLongFunction<KilogramRows>> bounds = new LinkedHashMap<>();
        bounds.put("part(6, 0)", x -> x.part(6, 0));
        bounds.put("part(0, 2)", x -> x.part(0, 2));
        bounds.put("put(0, 3, 0)", put(0, 3, 0));
        bounds.put("put(0, -1, 1)", put(0, -1, 1));
        bounds.put("put(1, -1, 5)", put(1, -1, 5));
        bounds.put("put(0, 3, -1)", put(0, 3, -1));
        bounds.put("put(0, 5, 99)", put(0, 5, 99));
        bounds.put("at(0, 3)", x -> x.at(0, 3));
        bounds.put("at(2, -1)", x -> x.at(2, -1));
        throwsAndChangesNothing(RefusedEdgesTest::partlyFilled, bounds, false);
        Map<String, ToLongFunction<KilogramRows>> arithmetic = new LinkedHashMap<>();
        arithmetic.put("value(1, 0)", x -> x.value(1, 0));
        arithmetic.put("value(0, 0)", x -> x.value(0, 0));
        arithmetic.put("over(0, 1)", x -> x.over(0, 1));
        arithmetic.put("over(1, 1)", x -> x.over(1, 1));
        arithmetic.put("over(6, 1)", x -> x.over(6, 1));
        throwsAndChangesNothing(RefusedEdgesTest::partlyFilled, arithmetic, true);
        Map<String, ToLongFunction<KilogramRows>> early = new LinkedHashMap<>();
        early.put("part(0, 0)", x -> x.part(0, 0));
        throwsAndChangesNothing(RefusedEdgesTest::fresh, early, false);
    }

    private static void thrownWhenFull() {
        due.sentence("A call that .. throws, changes nothing (a full object)");
        Map<String, ToLongFunction<KilogramRows>> bounds = new LinkedHashMap<>();
        bounds.put("part(300, 0)", x -> x.part(300, 0));
        bounds.put("put(19, 3, 0)", put(19, 3, 0));
        bounds.put("at(19, 3)", x -> x.at(19, 3));
        throwsAndChangesNothing(RefusedEdgesTest::full, bounds, false);
        Map<String, ToLongFunction<KilogramRows>> arithmetic = new LinkedHashMap<>();
        arithmetic.put("value(1, 0)", x -> x.value(1, 0));
        arithmetic.put("over(1, 0)", x -> x.over(1, 0));
        arithmetic.put("over(300, 0)", x -> x.over(300, 0));
        throwsAndChangesNothing(RefusedEdgesTest::full, arithmetic, true);
    }

    private static void askingChangesNothing() {
        due.sentence("Nothing is promised beyond the answers and state changes described above");
        String untouched = seen(partlyFilled());
        KilogramRows x = partlyFilled();
        due.same("part", x.part(4, 0), -7);
        due.same("order", x.order(0, 1), 1);
        due.same("order of none", x.order(0, 6), -2);
        due.same("round", x.round(4, 0, 5), -5);
        due.noNumber("round of none", x.round(6, 0, 5));
        due.same("digit", x.digit(4, 0, 0), 7);
        due.same("at", x.at(0, 0), 4);
        due.none("at of none", x.at(0, 1));
        due.same("answer", x.answer(0, 0), 8);
        due.noNumber("answer of none", x.answer(2, 0));
        due.same("share", x.share(7, 2), 4);
        sameSeen("asking", seen(x), untouched);
        KilogramRows y = partlyFilled();
        y.entry(3, 2, 0);
        y.entry(3, 3, 0);
        due.same("solve(4) that names a row", y.solve(4), 4);
        y.entry(3, 2, 1);
        y.entry(3, 3, 4);
        sameSeen("a solve that names a row", seen(y), untouched);
    }

    /** No call of the document names two exceptions; where one names an exception and an answer, it says which. */
    private static void wrongInTwoWays() {
        due.sentence("where two exceptions are named it is the first");
        KilogramRows x = partlyFilled();
        due.outOfBounds("part(6, 2): no value and no part", () -> x.part(6, 2));
        due.outOfBounds("part(-1, -1): no value and no part", () -> x.part(-1, -1));
        due.arithmetic("value(MAX, 0): over 0 and too great", () -> x.value(Long.MAX_VALUE, 0));
        due.arithmetic("over(6, 1): no a and over 0", () -> x.over(6, 1));
        due.none("over(1, 6): a is 0 and no b", x.over(1, 6));
        due.no("put(3, 3, 0): no row and no kind", x.put(3, 3, 0));
        due.outOfBounds("put(0, 3, 6): no kind and no value", () -> x.put(0, 3, 6) ? 1 : 0);
        due.none("at(3, 3): no row and no kind", x.at(3, 3));
        KilogramRows full = full();
        due.arithmetic("value(1, 0) of 300", () -> full.value(1, 0));
        due.arithmetic("over(1, 0) of 300", () -> full.over(1, 0));
    }
}
