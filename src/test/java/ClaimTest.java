import java.util.Arrays;

/** Promises 12 and 17: claim, settled. */
public final class ClaimTest {
    private static final Check check = new Check();

    public static void main(String[] args) {
        partsOfAClaim();
        aggregateIsOfThePolicy();
        layerIsOfAllPolicies();
        layerWithoutTimes();
        quotaComesBeforeRetention();
        claimNeedsForce();
        claimRefusals();
        atMostTwentyClaims();
        settledRefusals();
        check.end();
    }

    private static CarrierBooks flat() {
        CarrierBooks x = new CarrierBooks();
        x.row(0, 49, 0, 9, 50);
        return x;
    }

    private static void settled(CarrierBooks x, int k, int... due) {
        for (int what = 0; what < due.length; what++) {
            int w = what;
            check.answers("settled(" + k + ", " + w + ")", due[w], () -> x.settled(k, w));
        }
    }

    private static void partsOfAClaim() {
        CarrierBooks x = flat();
        x.terms(100, 5000, 6000);
        x.layer(1000, 500, 1, 35);
        x.quota(33);
        x.bind(100, 200, 5, 5, 100);
        check.answers("claim", 2001, () -> x.claim(0, 103, 2101));
        settled(x, 0, 0, 103, 2001, 660, 341, 341);
        check.posted("paid", x, 2, 1, 4, 2001);
        check.posted("recovered", x, 3, 5, 3, 1001);
        check.posted("price of the renewed, rounded down", x, 4, 3, 2, 119);
        check.answers("claim up to the aggregate", 3999, () -> x.claim(0, 299, 9999));
        settled(x, 1, 0, 299, 3999, 1319, 500, 159);
        check.posted("price of the rest", x, 7, 3, 2, 55);
        check.answers("claim with nothing left", 0, () -> x.claim(0, 100, 9999));
        settled(x, 2, 0, 100, 0, 0, 0, 0);
        check.answers("it is a claim", 3, () -> x.count(2));
        check.answers("but posts nothing", 8, () -> x.count(3));
        check.balances("claims", x, -1000, 1000 - 6000, 330 + 119 + 55,
                -330 + 1001 + 1819 - 119 - 55, 6000, -1001 - 1819, 0);
    }

    private static void aggregateIsOfThePolicy() {
        CarrierBooks x = flat();
        x.terms(0, 600, 1000);
        x.bind(0, 10, 0, 0, 1);
        x.bind(0, 10, 0, 0, 1);
        check.answers("up to the limit", 600, () -> x.claim(0, 0, 9999));
        check.answers("another policy has its own aggregate", 600, () -> x.claim(1, 0, 601));
        check.answers("what is left", 400, () -> x.claim(0, 0, 600));
        check.answers("what is left of the other", 399, () -> x.claim(1, 0, 399));
        check.answers("the last of it", 1, () -> x.claim(1, 0, 2));
        check.answers("nothing of the first", 0, () -> x.claim(0, 0, 1));
    }

    private static void layerIsOfAllPolicies() {
        CarrierBooks x = flat();
        x.layer(100, 50, 2, 10);
        x.bind(0, 10, 0, 0, 1);
        x.bind(0, 10, 0, 0, 1);
        x.claim(0, 0, 100);
        settled(x, 0, 0, 0, 100, 0, 0, 0);
        x.claim(0, 0, 101);
        settled(x, 1, 0, 0, 101, 0, 1, 1);
        x.claim(1, 1, 9999);
        settled(x, 2, 1, 1, 9999, 0, 50, 50);
        x.claim(0, 2, 150);
        settled(x, 3, 0, 2, 150, 0, 50, 49);
        x.claim(0, 2, 151);
        settled(x, 4, 0, 2, 151, 0, 49, 0);
        x.claim(0, 2, 200);
        settled(x, 5, 0, 2, 200, 0, 0, 0);
    }

    private static void layerWithoutTimes() {
        CarrierBooks x = flat();
        x.layer(0, 50, 0, 99);
        x.bind(0, 10, 0, 0, 1);
        x.claim(0, 0, 30);
        settled(x, 0, 0, 0, 30, 0, 30, 0);
        x.claim(0, 0, 30);
        settled(x, 1, 0, 0, 30, 0, 20, 0);
        x.claim(0, 0, 30);
        settled(x, 2, 0, 0, 30, 0, 0, 0);
        check.answers("no price is posted", 5, () -> x.count(3));
        check.balances("layer", x, 0, -90, 0, 50, 90, -50, 0);
    }

    private static void quotaComesBeforeRetention() {
        CarrierBooks x = flat();
        x.quota(90);
        x.layer(9, 9999, 3, 0);
        x.bind(0, 10, 0, 0, 1);
        x.claim(0, 0, 99);
        settled(x, 0, 0, 0, 99, 89, 1, 1);
        x.claim(0, 0, 1);
        settled(x, 1, 0, 0, 1, 0, 0, 0);
        x.claim(0, 0, 9999);
        settled(x, 2, 0, 0, 9899, 8909, 981, 981);
    }

    private static void claimNeedsForce() {
        CarrierBooks x = flat();
        x.bind(10, 100, 0, 0, 1);
        x.cancel(0, 50, false);
        x.reinstate(0, 70);
        check.refusesUnchanged("day before the term", Check.STATE, x, () -> x.claim(0, 9, 5));
        check.answers("first day", 5, () -> x.claim(0, 10, 5));
        check.answers("day before the cancel", 5, () -> x.claim(0, 49, 5));
        check.refusesUnchanged("day of the cancel", Check.STATE, x, () -> x.claim(0, 50, 5));
        check.refuses("day before the reinstate", Check.STATE, () -> x.claim(0, 69, 5));
        check.answers("day of the reinstate", 5, () -> x.claim(0, 70, 5));
        check.answers("last day", 5, () -> x.claim(0, 109, 5));
        check.refuses("day behind the term", Check.STATE, () -> x.claim(0, 110, 5));
        check.refuses("day 999", Check.STATE, () -> x.claim(0, 999, 5));
        check.refuses("day 0", Check.STATE, () -> x.claim(0, 0, 5));
    }

    private static void claimRefusals() {
        CarrierBooks x = flat();
        check.refuses("claim without policies", Check.NONE, () -> x.claim(0, 0, 1));
        x.bind(10, 100, 0, 0, 1);
        int[][] none = {{1, 50, 5}, {-1, 50, 5}, {6, -1, 0}, {Integer.MIN_VALUE, 0, 0}};
        check.unchanged("wrong calls of claim", x, () -> {
            for (int[] w : none) {
                check.refuses("claim" + Arrays.toString(w), Check.NONE, () -> x.claim(w[0], w[1], w[2]));
            }
        });
        int[][] wrong = {{0, -1, 5}, {0, 1000, 5}, {0, 50, 0}, {0, 50, -1}, {0, 50, 10000}, {0, 9, 0},
            {0, Integer.MIN_VALUE, 5}, {0, Integer.MAX_VALUE, 5}, {0, 50, Integer.MAX_VALUE}};
        check.unchanged("wrong calls of claim", x, () -> {
            for (int[] w : wrong) {
                check.refuses("claim" + Arrays.toString(w), Check.ARGUMENT, () -> x.claim(w[0], w[1], w[2]));
            }
        });
        check.runs("terms behind wrong claims", () -> x.terms(0, 9999, 9999));
        check.answers("least loss", 1, () -> x.claim(0, 50, 1));
        check.answers("greatest loss", 9998, () -> x.claim(0, 50, 9999));
    }

    private static void atMostTwentyClaims() {
        CarrierBooks x = flat();
        x.bind(0, 10, 0, 0, 1);
        for (int k = 0; k < 20; k++) {
            int loss = k + 1;
            check.answers("claim " + k, loss, () -> x.claim(0, loss % 10, loss));
        }
        check.refusesUnchanged("claim 20", Check.STATE, x, () -> x.claim(0, 0, 1));
        check.refuses("wrong claim 20", Check.ARGUMENT, () -> x.claim(0, 0, 0));
        check.refuses("claim 20 of no policy", Check.NONE, () -> x.claim(1, 0, 0));
        settled(x, 19, 0, 0, 20, 0, 0, 0);
        settled(x, 7, 0, 8, 8, 0, 0, 0);
    }

    private static void settledRefusals() {
        CarrierBooks x = flat();
        x.bind(0, 10, 0, 0, 1);
        check.refuses("settled without claims", Check.NONE, () -> x.settled(0, 0));
        x.claim(0, 3, 7);
        int[][] none = {{1, 0}, {-1, 0}, {0, 6}, {0, -1}, {20, 2}, {19, 2},
            {Integer.MAX_VALUE, 0}, {0, Integer.MIN_VALUE}, {715827883, 0}};
        check.unchanged("wrong calls of settled", x, () -> {
            for (int[] w : none) {
                check.refuses("settled" + Arrays.toString(w), Check.NONE, () -> x.settled(w[0], w[1]));
            }
        });
        settled(x, 0, 0, 3, 7, 0, 0, 0);
    }
}
