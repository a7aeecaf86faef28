/** The sentences of promises 18 and 19 that name a boundary case, each with a test of its own. */
public final class SharesEdgesTest {
    private static final long MOST_WHOLE = 1000000000000L;
    private static final int[] FAR = {Integer.MIN_VALUE, Integer.MAX_VALUE};
    private static final Due due = new Due();

    public static void main(String[] args) {
        weightIsHowManyThereAre();
        weightThatIsNotSuch();
        weightWhenThereAreTwelve();
        shareOfTheLeastAndTheGreatestWhole();
        shareOfNoSuchWhole();
        shareOfNoSuchWeight();
        shareOfWeightsZero();
        due.end();
    }

    private static KilogramRows weighted(int... weights) {
        KilogramRows x = new KilogramRows(1);
        for (int i = 0; i < weights.length; i++) {
            due.same("weight(" + weights[i] + ")", x.weight(weights[i]), i + 1);
        }
        return x;
    }

    private static void shares(KilogramRows x, long whole, long... want) {
        for (int k = 0; k < want.length; k++) {
            due.same("share(" + whole + ", " + k + ")", x.share(whole, k), want[k]);
        }
    }

    private static void weightIsHowManyThereAre() {
        due.sentence("Promise 18: One more weight: how many there are");
        KilogramRows x = new KilogramRows(1);
        for (int count = 1; count <= 12; count++) {
            due.same("weight " + count, x.weight(count % 3 == 0 ? 0 : count % 3 == 1 ? 1000000 : 1), count);
        }
        due.same("the same weight twice counts twice", weighted(5, 5).weight(5), 3);
    }

    private static void weightThatIsNotSuch() {
        due.sentence("Promise 18: NONE when it is not such");
        KilogramRows x = new KilogramRows(1);
        for (int w : new int[] {-1, -2, 1000001, 1000002, -1000000, FAR[0], FAR[1]}) {
            due.none("weight(" + w + ")", x.weight(w));
        }
        due.none("there is none", x.share(1, 0));
        due.same("weight(0)", x.weight(0), 1);
        due.same("weight(1000000)", x.weight(1000000), 2);
        due.none("weight(-1)", x.weight(-1));
        due.none("weight(1000001)", x.weight(1000001));
        shares(x, 7, 0, 7);
        due.none("there is no third", x.share(7, 2));
        due.same("weight(1000000)", x.weight(1000000), 3);
        shares(x, 7, 0, 4, 3);
    }

    private static void weightWhenThereAreTwelve() {
        due.sentence("Promise 18: NONE when .. there are 12.");
        KilogramRows x = weighted(1, 2, 3, 4, 5, 6, 7, 8, 9, 10, 11, 12);
        for (int w : new int[] {0, 1, 1000000, -1, 1000001, FAR[0], FAR[1]}) {
            due.none("weight(" + w + ")", x.weight(w));
        }
        shares(x, 78, 1, 2, 3, 4, 5, 6, 7, 8, 9, 10, 11, 12);
        due.none("there is no 13th", x.share(78, 12));
    }

    private static void shareOfTheLeastAndTheGreatestWhole() {
        due.sentence("Promise 19: What weight k gets of a whole of 0 .. 1000000000000");
        int m = 1000000;
        KilogramRows twelve = weighted(m, m, m, m, m, m, m, m, m, m, m, m);
        shares(twelve, 0, 0, 0, 0, 0, 0, 0, 0, 0, 0, 0, 0, 0);
        shares(twelve, 1, 1, 0, 0, 0, 0, 0, 0, 0, 0, 0, 0, 0);
        long down = 83333333333L;
        shares(twelve, MOST_WHOLE, down + 1, down + 1, down + 1, down + 1, down, down, down, down, down, down, down, down);
        shares(twelve, MOST_WHOLE - 1, down + 1, down + 1, down + 1, down, down, down, down, down, down, down, down, down);
        shares(weighted(m), MOST_WHOLE, MOST_WHOLE);
        shares(weighted(1), MOST_WHOLE, MOST_WHOLE);
        shares(weighted(1), 0, 0);
        // Over 1000001 the great one's rest is 1000000, the small one's 1.
        shares(weighted(m, 1), MOST_WHOLE, 999999000001L, 999999L);
        shares(weighted(1, m, 0), MOST_WHOLE, 999999L, 999999000001L, 0);
    }

    private static void shareOfNoSuchWhole() {
        due.sentence("Promise 19: NONE when there are none such (the whole)");
        KilogramRows x = weighted(1, 2);
        long[] wrong = {-1, -2, MOST_WHOLE + 1, MOST_WHOLE + 2, 2 * MOST_WHOLE, -MOST_WHOLE, Long.MIN_VALUE, Long.MAX_VALUE};
        for (long whole : wrong) {
            due.none("share(" + whole + ", 0)", x.share(whole, 0));
            due.none("share(" + whole + ", 1)", x.share(whole, 1));
            due.none("share(" + whole + ", 2), no weight either", x.share(whole, 2));
        }
    }

    private static void shareOfNoSuchWeight() {
        due.sentence("Promise 19: NONE when there are none such (the weight)");
        due.none("share(1, 0) without weights", new KilogramRows(1).share(1, 0));
        due.none("share(0, 0) without weights", new KilogramRows(1).share(0, 0));
        due.none("share(0, -1) without weights", new KilogramRows(1).share(0, -1));
        KilogramRows x = new KilogramRows(1);
        for (int count = 1; count <= 12; count++) {
            x.weight(1);
            due.same("share(" + count + ", last)", x.share(count, count - 1), 1);
            for (int k : new int[] {count, count + 1, 12, 13, -1, -2, FAR[0], FAR[1]}) {
                due.none("share(" + count + ", " + k + ")", x.share(count, k));
                due.none("share(0, " + k + ")", x.share(0, k));
            }
        }
    }

    private static void shareOfWeightsZero() {
        due.sentence("Promise 19: NONE when .. all weights are 0.");
        KilogramRows x = new KilogramRows(1);
        for (int count = 1; count <= 11; count++) {
            due.same("weight(0)", x.weight(0), count);
            due.none("share(1, 0)", x.share(1, 0));
            due.none("share(0, 0)", x.share(0, 0));
            due.none("share(10^12, last)", x.share(MOST_WHOLE, count - 1));
        }
        due.same("weight(1)", x.weight(1), 12);
        shares(x, 9, 0, 0, 0, 0, 0, 0, 0, 0, 0, 0, 0, 9);
        shares(x, 0, 0, 0, 0, 0, 0, 0, 0, 0, 0, 0, 0, 0);
        shares(weighted(0, 1), MOST_WHOLE, 0, MOST_WHOLE);
        shares(weighted(1, 0), MOST_WHOLE, MOST_WHOLE, 0);
    }
}
