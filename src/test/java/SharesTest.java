/** Promises 18 and 19: weights and shares. */
public final class SharesTest {
    private static final long MOST_WHOLE = 1000000000000L;
    private static final Due due = new Due();

    public static void main(String[] args) {
        weight();
        share();
        theGreatestRestsFirst();
        ofTheSameRestsTheLesserNumberFirst();
        shareRefused();
        greatWholes();
        due.end();
    }

    private static KilogramRows weighted(int... weights) {
        KilogramRows x = new KilogramRows(1);
        for (int i = 0; i < weights.length; i++) {
            due.same("weight " + i, x.weight(weights[i]), i + 1);
        }
        return x;
    }

    private static void shares(String name, KilogramRows x, long whole, long... want) {
        long all = 0;
        for (int k = 0; k < want.length; k++) {
            due.same(name + ", share(" + whole + ", " + k + ")", x.share(whole, k), want[k]);
            all += x.share(whole, k);
        }
        due.same(name + ", all shares", all, whole);
    }

    private static void weight() {
        KilogramRows x = new KilogramRows(1);
        int[] wrong = {-1, 1000001, Integer.MAX_VALUE, Integer.MIN_VALUE};
        for (int i = 0; i < 12; i++) {
            for (int w : wrong) {
                due.same("weight(" + w + ")", x.weight(w), -1);
            }
            due.same("weight " + i, x.weight(i % 2 == 0 ? 0 : 1000000), i + 1);
        }
        due.same("a 13th weight", x.weight(1), -1);
        due.same("a 14th weight", x.weight(0), -1);
        due.same("no 13th share", x.share(6, 12), -1);
        for (int k = 0; k < 12; k++) {
            due.same("share(6, " + k + ")", x.share(6, k), k % 2);
        }
    }

    private static void share() {
        KilogramRows x = weighted(1, 2, 3);
        shares("without a rest", x, 12, 2, 4, 6);
        shares("nothing", x, 0, 0, 0, 0);
        shares("a rest of one", x, 10, 2, 3, 5);
        due.same("weight(4)", x.weight(4), 4);
        shares("with one weight more", x, 10, 1, 2, 3, 4);
        shares("a weight of 0 gets nothing", weighted(0, 1, 0, 1, 0), 7, 0, 4, 0, 3, 0);
        shares("one weight gets all", weighted(5), 13, 13);
    }

    private static void theGreatestRestsFirst() {
        // 10 times 1, 5, 7 over 13 cuts off 10, 11, 5.
        shares("one is left, to the second", weighted(1, 5, 7), 10, 1, 4, 5);
        // 11 times 1, 1, 9 over 11 cuts off nothing; 12 times cuts off 1, 1, 9.
        shares("one is left, to the last", weighted(1, 1, 9), 12, 1, 1, 10);
        // 5 times 3, 2, 2, 6 over 13 cuts off 2, 10, 10, 4 and leaves two.
        shares("two are left", weighted(3, 2, 2, 6), 5, 1, 1, 1, 2);
    }

    private static void ofTheSameRestsTheLesserNumberFirst() {
        KilogramRows x = weighted(1, 1, 1, 1, 1, 1, 1, 1, 1, 1, 1, 1);
        for (int whole = 0; whole <= 36; whole++) {
            for (int k = 0; k < 12; k++) {
                due.same("share(" + whole + ", " + k + ")", x.share(whole, k), whole / 12 + (k < whole % 12 ? 1 : 0));
            }
        }
        // 4 times 3, 2, 3, 2 over 10 cuts off 2, 8, 2, 8 and leaves two.
        shares("the same rests between others", weighted(3, 2, 3, 2), 4, 1, 1, 1, 1);
        shares("the same rests behind a lesser one", weighted(5, 2, 2, 2), 3, 1, 1, 1, 0);
    }

    private static void shareRefused() {
        KilogramRows x = new KilogramRows(1);
        due.same("share without weights", x.share(5, 0), -1);
        x.weight(0);
        x.weight(0);
        due.same("share of weights of 0", x.share(5, 0), -1);
        due.same("share of 0 of weights of 0", x.share(0, 1), -1);
        x.weight(1);
        shares("now it can be shared", x, 5, 0, 0, 5);
        due.same("share(5, 3)", x.share(5, 3), -1);
        due.same("share(5, -1)", x.share(5, -1), -1);
        due.same("share(5, MAX)", x.share(5, Integer.MAX_VALUE), -1);
        due.same("share(5, MIN)", x.share(5, Integer.MIN_VALUE), -1);
        due.same("share(-1, 2)", x.share(-1, 2), -1);
        due.same("share(10^12 + 1, 2)", x.share(MOST_WHOLE + 1, 2), -1);
        due.same("share(MAX, 2)", x.share(Long.MAX_VALUE, 2), -1);
        due.same("share(MIN, 2)", x.share(Long.MIN_VALUE, 2), -1);
        due.same("share(10^12, 2)", x.share(MOST_WHOLE, 2), MOST_WHOLE);
    }

    private static void greatWholes() {
        int m = 1000000;
        KilogramRows x = weighted(m, m, m, m, m, m, m, m, m, m, m, m);
        for (int k = 0; k < 12; k++) {
            due.same("share(10^12, " + k + ")", x.share(MOST_WHOLE, k), 83333333333L + (k < 4 ? 1 : 0));
        }
        shares("great against small", weighted(m, 1), MOST_WHOLE, 999999000001L, 999999L);
        shares("great against none", weighted(0, m), MOST_WHOLE, 0, MOST_WHOLE);
    }
}
