/** Promises 11 to 14: rows of values over kinds. */
public final class RowsTest {
    private static final long MOST = 1000000000L;
    private static final Due due = new Due();

    public static void main(String[] args) {
        row();
        putAndAt();
        putRefused();
        atRefused();
        sum();
        sumOnTheWay();
        due.end();
    }

    private static void row() {
        KilogramRows x = new KilogramRows(16);
        for (int i = 0; i < 20; i++) {
            due.same("row " + i, x.row(), i);
        }
        due.same("row 21", x.row(), -1);
        due.same("row 22", x.row(), -1);
        due.same("at(19, 15)", x.at(19, 15), -1);
        due.same("at(20, 0)", x.at(20, 0), -1);
        due.no("put(20, 0, -1)", x.put(20, 0, -1));
    }

    private static void putAndAt() {
        int kinds = 16;
        KilogramRows x = new KilogramRows(kinds);
        for (int v = 0; v < 4; v++) {
            x.value(v, 5);
        }
        for (int r = 0; r < 20; r++) {
            x.row();
            due.yes("put in row " + r, x.put(r, r % kinds, r % 4));
        }
        for (int r = 0; r < 20; r++) {
            for (int kind = 0; kind < kinds; kind++) {
                due.same("at(" + r + ", " + kind + ")", x.at(r, kind), kind == r % kinds ? r % 4 : -1);
            }
        }
        due.yes("told again", x.put(3, 3, 0));
        due.same("it is that", x.at(3, 3), 0);
        due.yes("the same again", x.put(3, 3, 0));
        due.same("it is still that", x.at(3, 3), 0);
        due.yes("none", x.put(3, 3, -1));
        due.same("it is none", x.at(3, 3), -1);
        due.yes("none again", x.put(3, 3, -1));
    }

    private static void putRefused() {
        KilogramRows x = new KilogramRows(3);
        x.value(1, 2);
        due.no("put without a row", x.put(0, 0, 0));
        due.no("put without a row and kind", x.put(0, 3, 0));
        x.row();
        x.put(0, 1, 0);
        due.no("put(-1, 0, 0)", x.put(-1, 0, 0));
        due.no("put(-1, -1, 0)", x.put(-1, -1, 0));
        due.no("put(1, 0, 0)", x.put(1, 0, 0));
        due.no("put(1, 99, 0)", x.put(1, 99, 0));
        due.no("put(0, 1, 1)", x.put(0, 1, 1));
        due.no("put(0, 1, -2)", x.put(0, 1, -2));
        due.no("put(0, 1, MAX)", x.put(0, 1, Integer.MAX_VALUE));
        due.no("put(0, 1, MIN)", x.put(0, 1, Integer.MIN_VALUE));
        int[][] wrong = {{3, 0}, {-1, 0}, {3, -1}, {3, 99}, {-1, -2}, {Integer.MAX_VALUE, 0}, {Integer.MIN_VALUE, 0}};
        for (int[] w : wrong) {
            due.outOfBounds("put(0, " + w[0] + ", " + w[1] + ")", () -> x.put(0, w[0], w[1]) ? 1 : 0);
        }
        due.same("nothing refused changed kind 0", x.at(0, 0), -1);
        due.same("nothing refused changed kind 1", x.at(0, 1), 0);
        due.same("nothing refused changed kind 2", x.at(0, 2), -1);
        due.same("nothing refused made a row", x.row(), 1);
        due.same("the new row has none", x.at(1, 0), -1);
    }

    private static void atRefused() {
        KilogramRows x = new KilogramRows(3);
        due.same("at(0, 3) without a row", x.at(0, 3), -1);
        x.row();
        due.same("at(-1, 0)", x.at(-1, 0), -1);
        due.same("at(1, 0)", x.at(1, 0), -1);
        due.same("at(1, -1)", x.at(1, -1), -1);
        due.same("at(MIN, MIN)", x.at(Integer.MIN_VALUE, Integer.MIN_VALUE), -1);
        due.outOfBounds("at(0, 3)", () -> x.at(0, 3));
        due.outOfBounds("at(0, -1)", () -> x.at(0, -1));
        due.outOfBounds("at(0, MAX)", () -> x.at(0, Integer.MAX_VALUE));
        due.outOfBounds("at(0, MIN)", () -> x.at(0, Integer.MIN_VALUE));
    }

    private static void sum() {
        KilogramRows x = new KilogramRows(4);
        x.value(1, 2);
        x.value(1, 3);
        x.value(-5, 6);
        due.same("sum without a row", x.sum(0), -1);
        x.row();
        x.row();
        due.same("sum of none", x.sum(0), -1);
        x.put(0, 2, 1);
        due.same("sum of one is a new value", x.sum(0), 3);
        due.fraction("sum of one", x, 3, 1, 3);
        x.put(0, 0, 0);
        due.fraction("1/2 + 1/3", x, x.sum(0), 5, 6);
        x.put(0, 3, 2);
        due.same("one new value a sum", x.sum(0), 5);
        due.fraction("1/2 + 1/3 - 5/6", x, 5, 0, 1);
        x.put(0, 1, 0);
        due.fraction("one value for two kinds", x, x.sum(0), 1, 2);
        due.same("the other row has none", x.sum(1), -1);
        x.put(1, 0, 0);
        due.fraction("the row behind is not added", x, x.sum(0), 1, 2);
        due.fraction("the row before is not added", x, x.sum(1), 1, 2);
        due.same("sum(-1)", x.sum(-1), -1);
        due.same("sum(2)", x.sum(2), -1);
        due.same("sum(MAX)", x.sum(Integer.MAX_VALUE), -1);
        due.same("sum(MIN)", x.sum(Integer.MIN_VALUE), -1);
        for (int kind = 0; kind < 4; kind++) {
            x.put(0, kind, -1);
        }
        due.same("sum of none again", x.sum(0), -1);
        due.same("no refused sum kept a value", x.value(1, 1), 9);
        sumOfSixteen();
    }

    private static void sumOfSixteen() {
        KilogramRows x = new KilogramRows(16);
        x.row();
        for (int kind = 0; kind < 16; kind++) {
            x.value(1, 1L << kind);
            x.put(0, kind, kind);
        }
        due.fraction("1 + 1/2 + .. + 1/2^15", x, x.sum(0), (1L << 16) - 1, 1L << 15);
    }

    private static void sumOnTheWay() {
        KilogramRows x = new KilogramRows(3);
        x.row();
        x.value(MOST, 1);
        x.value(1, 1);
        x.value(-1, 1);
        x.put(0, 0, 0);
        x.put(0, 1, 1);
        x.put(0, 2, 2);
        due.same("10^9 + 1 on the way", x.sum(0), -1);
        x.put(0, 1, 2);
        x.put(0, 2, 1);
        due.same("10^9 - 1 + 1", x.sum(0), 3);
        due.fraction("10^9 - 1 + 1", x, 3, MOST, 1);
        x.value(1, MOST);
        x.value(1, MOST - 1);
        x.value(-1, MOST - 1);
        x.put(0, 0, 4);
        x.put(0, 1, 5);
        x.put(0, 2, 6);
        due.same("a lower number too great on the way", x.sum(0), -1);
        x.put(0, 0, 5);
        x.put(0, 1, 6);
        x.put(0, 2, 4);
        due.same("no refused sum kept a value", x.sum(0), 7);
        due.fraction("in another order it is", x, 7, 1, MOST);
    }
}
