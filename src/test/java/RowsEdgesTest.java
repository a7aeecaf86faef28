/** The sentences of promises 11 to 14 that name a boundary case, each with a test of its own. */
public final class RowsEdgesTest {
    private static final long MOST = 1000000000L;
    private static final int[] FAR = {Integer.MIN_VALUE, Integer.MAX_VALUE};
    private static final Due due = new Due();

    public static void main(String[] args) {
        oneMoreRow();
        noRowWhenThereAreTwenty();
        putToldAgain();
        putNone();
        putWithoutTheRow();
        putWithoutTheValue();
        putWithoutTheKind();
        atOfNone();
        atWithoutTheRow();
        atWithoutTheKind();
        sumFromTheFirstOneOn();
        sumIsANewValue();
        sumOfNone();
        sumWithoutTheRow();
        sumOnTheWay();
        sumWhenThereAreThreeHundred();
        due.end();
    }

    /** Values 0, 1, 2 are 1/2, 1/3, -5/6; rows 0 and 1 have none. */
    private static KilogramRows withRows(int kinds) {
        KilogramRows x = new KilogramRows(kinds);
        x.value(1, 2);
        x.value(1, 3);
        x.value(-5, 6);
        due.same("row 0", x.row(), 0);
        due.same("row 1", x.row(), 1);
        return x;
    }

    private static void oneMoreRow() {
        due.sentence("Promise 11: One more row: its number");
        KilogramRows x = new KilogramRows(1);
        for (int row = 0; row < 20; row++) {
            due.same("row " + row, x.row(), row);
        }
    }

    private static void noRowWhenThereAreTwenty() {
        due.sentence("Promise 11: NONE when there are 20.");
        KilogramRows x = new KilogramRows(16);
        x.value(1, 2);
        for (int row = 0; row < 20; row++) {
            x.row();
            x.put(row, 15, 0);
        }
        for (int again = 0; again < 5; again++) {
            due.none("row()", x.row());
        }
        due.none("at(20, 0)", x.at(20, 0));
        due.no("put(20, 0, 0)", x.put(20, 0, 0));
        due.none("sum(20)", x.sum(20));
        for (int row = 0; row < 20; row++) {
            due.same("at(" + row + ", 15) is as it was", x.at(row, 15), 0);
        }
    }

    private static void putToldAgain() {
        due.sentence("Promise 12: is value v (told again it is that)");
        KilogramRows x = withRows(2);
        due.yes("put(0, 1, 2)", x.put(0, 1, 2));
        due.same("it is that", x.at(0, 1), 2);
        due.yes("put(0, 1, 0)", x.put(0, 1, 0));
        due.same("it is the other", x.at(0, 1), 0);
        due.yes("put(0, 1, 0)", x.put(0, 1, 0));
        due.same("it is still that", x.at(0, 1), 0);
        due.none("not of the kind before", x.at(0, 0));
        due.none("not of the row behind", x.at(1, 1));
        due.yes("put(1, 0, 0): one value in two rows", x.put(1, 0, 0));
        due.same("it is in the one", x.at(0, 1), 0);
        due.same("it is in the other", x.at(1, 0), 0);
        for (int v = 3; v < 300; v++) {
            x.value(1, 1);
        }
        due.yes("put(1, 1, 299): the last value", x.put(1, 1, 299));
        due.same("it is that", x.at(1, 1), 299);
        due.no("put(1, 1, 300)", x.put(1, 1, 300));
        due.same("it is still that", x.at(1, 1), 299);
    }

    private static void putNone() {
        due.sentence("Promise 12: or none (-1)");
        KilogramRows x = withRows(2);
        due.yes("put(0, 1, -1) of none", x.put(0, 1, -1));
        due.none("it is none", x.at(0, 1));
        x.put(0, 1, 0);
        due.yes("put(0, 1, -1)", x.put(0, 1, -1));
        due.none("it is none", x.at(0, 1));
        due.none("there is nothing to sum", x.sum(0));
        due.yes("put(0, 1, 1)", x.put(0, 1, 1));
        due.same("it is that", x.at(0, 1), 1);
        KilogramRows empty = new KilogramRows(1);
        empty.row();
        due.yes("put(0, 0, -1) without values", empty.put(0, 0, -1));
    }

    private static void putWithoutTheRow() {
        due.sentence("Promise 12: false when there is no such row");
        KilogramRows empty = new KilogramRows(2);
        empty.value(1, 2);
        due.no("put(0, 0, 0) without rows", empty.put(0, 0, 0));
        due.no("put(0, 0, -1) without rows", empty.put(0, 0, -1));
        due.no("put(0, 2, 0) without rows or kind", empty.put(0, 2, 0));
        KilogramRows x = withRows(2);
        for (int row : new int[] {-1, 2, 3, 19, 20, FAR[0], FAR[1]}) {
            due.no("put(" + row + ", 0, 0)", x.put(row, 0, 0));
            due.no("put(" + row + ", 0, -1)", x.put(row, 0, -1));
            due.no("put(" + row + ", 2, 0), no kind either", x.put(row, 2, 0));
            due.no("put(" + row + ", -1, 9), no kind or value either", x.put(row, -1, 9));
        }
    }

    private static void putWithoutTheValue() {
        due.sentence("Promise 12: false when there is no such .. value");
        KilogramRows x = withRows(2);
        x.put(0, 0, 1);
        for (int v : new int[] {-2, 3, 4, 299, 300, FAR[0], FAR[1]}) {
            due.no("put(0, 0, " + v + ")", x.put(0, 0, v));
            due.same("at(0, 0) is as it was", x.at(0, 0), 1);
            due.no("put(1, 1, " + v + ")", x.put(1, 1, v));
            due.none("at(1, 1) is as it was", x.at(1, 1));
        }
        x.value(1, 1);
        due.yes("put(0, 0, 3) when it is there", x.put(0, 0, 3));
    }

    private static void putWithoutTheKind() {
        due.sentence("Promise 12: IndexOutOfBoundsException: there is the row, and no such kind (whatever v is).");
        KilogramRows x = withRows(3);
        x.put(0, 2, 0);
        x.put(1, 0, 1);
        for (int kind : new int[] {-1, 3, 4, 16, FAR[0], FAR[1]}) {
            for (int v : new int[] {-1, 0, 2, 3, -2, 300, FAR[0], FAR[1]}) {
                due.outOfBounds("put(0, " + kind + ", " + v + ")", () -> x.put(0, kind, v) ? 1 : 0);
                due.outOfBounds("put(1, " + kind + ", " + v + ")", () -> x.put(1, kind, v) ? 1 : 0);
            }
        }
        due.same("at(0, 2) is as it was", x.at(0, 2), 0);
        due.same("at(1, 0) is as it was", x.at(1, 0), 1);
        due.none("at(0, 0) is as it was", x.at(0, 0));
        due.none("at(1, 2) is as it was", x.at(1, 2));
    }

    private static void atOfNone() {
        due.sentence("Promise 13: NONE when it has none");
        KilogramRows x = withRows(16);
        for (int kind = 0; kind < 16; kind++) {
            due.none("at(1, " + kind + ")", x.at(1, kind));
        }
        x.put(1, 7, 2);
        due.same("at(1, 7)", x.at(1, 7), 2);
        due.none("at(1, 6)", x.at(1, 6));
        due.none("at(1, 8)", x.at(1, 8));
        due.none("at(0, 7)", x.at(0, 7));
    }

    private static void atWithoutTheRow() {
        due.sentence("Promise 13: NONE when .. there is no such row");
        KilogramRows x = withRows(2);
        x.put(0, 0, 0);
        x.put(1, 1, 0);
        for (int row : new int[] {-1, 2, 3, 19, 20, FAR[0], FAR[1]}) {
            for (int kind : new int[] {0, 1, 2, -1, FAR[0], FAR[1]}) {
                due.none("at(" + row + ", " + kind + ")", x.at(row, kind));
            }
        }
        due.none("at(0, 0) without rows", new KilogramRows(1).at(0, 0));
        due.none("at(0, 1) without rows or kind", new KilogramRows(1).at(0, 1));
    }

    private static void atWithoutTheKind() {
        due.sentence("Promise 13: IndexOutOfBoundsException: as for put().");
        KilogramRows x = withRows(3);
        x.put(1, 0, 0);
        for (int kind : new int[] {-1, 3, 4, 16, FAR[0], FAR[1]}) {
            due.outOfBounds("at(0, " + kind + ")", () -> x.at(0, kind));
            due.outOfBounds("at(1, " + kind + ")", () -> x.at(1, kind));
        }
    }

    private static void sumFromTheFirstOneOn() {
        due.sentence("Promise 14: kinds by numbers from the first one that it has on, one added to the other");
        KilogramRows x = withRows(16);
        x.put(0, 15, 0);
        due.fraction("the last kind alone", x, x.sum(0), 1, 2);
        x.put(0, 0, 1);
        due.fraction("the first and the last", x, x.sum(0), 5, 6);
        x.put(0, 8, 2);
        due.fraction("one between them", x, x.sum(0), 0, 1);
        x.put(0, 0, -1);
        due.fraction("without the first", x, x.sum(0), -1, 3);
        x.put(1, 0, 0);
        due.fraction("a row of its own", x, x.sum(1), 1, 2);
        for (int kind = 0; kind < 16; kind++) {
            x.put(1, kind, 0);
        }
        due.fraction("sixteen times one value", x, x.sum(1), 8, 1);
    }

    private static void sumIsANewValue() {
        due.sentence("Promise 14: a new value's number");
        KilogramRows x = withRows(4);
        x.put(0, 1, 0);
        due.same("the sum of one", x.sum(0), 3);
        due.same("the same again", x.sum(0), 4);
        x.put(0, 2, 1);
        x.put(0, 3, 2);
        due.same("the sum of three takes one number", x.sum(0), 5);
        due.same("the row has its own as before", x.at(0, 1), 0);
        due.none("the row has no other", x.at(0, 0));
        due.fraction("what was summed is as it was", x, 0, 1, 2);
        due.same("the next number", x.value(1, 1), 6);
    }

    private static void sumOfNone() {
        due.sentence("Promise 14: NONE when it has none");
        KilogramRows x = withRows(2);
        x.put(1, 0, 0);
        due.none("sum(0)", x.sum(0));
        x.put(0, 1, 0);
        x.put(0, 1, -1);
        due.none("sum(0) when it was taken away", x.sum(0));
        due.same("nothing is kept", x.value(1, 1), 3);
        x.put(0, 1, x.value(0, 1));
        due.fraction("a value 0 is not none", x, x.sum(0), 0, 1);
    }

    private static void sumWithoutTheRow() {
        due.sentence("Promise 14: NONE when .. there is no such row");
        KilogramRows x = withRows(2);
        x.put(0, 0, 0);
        x.put(1, 1, 0);
        for (int row : new int[] {-1, 2, 3, 19, 20, FAR[0], FAR[1]}) {
            due.none("sum(" + row + ")", x.sum(row));
        }
        due.same("nothing is kept", x.value(1, 1), 3);
        due.none("sum(0) without rows", new KilogramRows(1).sum(0));
    }

    private static void sumOnTheWay() {
        due.sentence("Promise 14: NONE when .. some sum on the way would not be so");
        onTheWay("10^9 + 1 - 1", false, MOST, 1, 1, 1, -1, 1);
        onTheWay("10^9 - 1 + 1", true, MOST, 1, -1, 1, 1, 1);
        onTheWay("-10^9 - 1 + 1", false, -MOST, 1, -1, 1, 1, 1);
        onTheWay("-10^9 + 1 - 1", true, -MOST, 1, 1, 1, -1, 1);
        onTheWay("1/19019 + 1/52579 - 1/52579", false, 1, 19019, 1, 52579, -1, 52579);
        onTheWay("1/52579 - 1/52579 + 1/19019", true, 1, 52579, -1, 52579, 1, 19019);
        onTheWay("10^9 + 1/10^9 - 10^9", false, MOST, 1, 1, MOST, -MOST, 1);
        onTheWay("10^9 - 10^9 + 1/10^9", true, MOST, 1, -MOST, 1, 1, MOST);
        onTheWay("1 + 1 + 10^9", false, 1, 1, 1, 1, MOST, 1);
        onTheWay("1/2 + 1/2 + 999999999", true, 1, 2, 1, 2, MOST - 1, 1);
    }

    private static void onTheWay(String name, boolean fits, long... parts) {
        KilogramRows x = new KilogramRows(5);
        x.row();
        for (int i = 0; i < 3; i++) {
            x.value(parts[2 * i], parts[2 * i + 1]);
            x.put(0, i + 1, i);
        }
        due.same(name, x.sum(0), fits ? 3 : -1);
        due.same(name + ", the next number", x.value(1, 1), fits ? 4 : 3);
    }

    private static void sumWhenThereAreThreeHundred() {
        due.sentence("Promise 14: NONE when .. there are 300.");
        KilogramRows x = withRows(2);
        x.put(0, 0, 0);
        x.put(0, 1, 1);
        for (int v = 3; v < 299; v++) {
            x.value(1, 1);
        }
        due.same("the last", x.sum(0), 299);
        due.none("one more", x.sum(0));
        due.fraction("the last is as it was", x, 299, 5, 6);
        due.outOfBounds("there is no value 300", () -> x.part(300, 0));
    }
}
