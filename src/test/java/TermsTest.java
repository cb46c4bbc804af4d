import java.util.Arrays;

/** Promises 5 to 7: quota, terms, layer. */
public final class TermsTest {
    private static final Check check = new Check();

    public static void main(String[] args) {
        quotaIsPosted();
        quotaRefusals();
        termsAreUsed();
        termsRefusals();
        layerIsUsed();
        layerRefusals();
        check.end();
    }

    private static CarrierBooks flat(int rate) {
        CarrierBooks x = new CarrierBooks();
        x.row(0, 49, 0, 9, rate);
        return x;
    }

    private static void quotaIsPosted() {
        CarrierBooks x = flat(10);
        check.runs("quota(90)", () -> x.quota(90));
        check.runs("quota(0)", () -> x.quota(0));
        check.runs("quota(33)", () -> x.quota(33));
        x.bind(0, 10, 0, 0, 100);
        check.posted("premium", x, 0, 0, 1, 10);
        check.posted("quota of 10, rounded down", x, 1, 3, 2, 3);
        check.answers("postings", 2, () -> x.count(3));
    }

    private static void quotaRefusals() {
        CarrierBooks x = flat(10);
        x.quota(50);
        check.unchanged("wrong calls of quota", x, () -> {
            for (int q : new int[] {-1, 91, Integer.MIN_VALUE, Integer.MAX_VALUE}) {
                check.refuses("quota(" + q + ")", Check.ARGUMENT, () -> x.quota(q));
            }
        });
        x.bind(0, 10, 0, 0, 100);
        check.posted("the quota before the wrong ones", x, 1, 3, 2, 5);
        check.refusesUnchanged("quota with a policy", Check.STATE, x, () -> x.quota(10));
        check.refuses("wrong quota with a policy", Check.STATE, () -> x.quota(91));
        x.claim(0, 0, 100);
        check.answers("the quota is as before", 50, () -> x.settled(0, 3));
    }

    private static void termsAreUsed() {
        CarrierBooks x = flat(10);
        x.bind(0, 10, 0, 0, 100);
        check.runs("terms with a policy", () -> x.terms(999, 9999, 9999));
        check.runs("terms once more", () -> x.terms(0, 1, 1));
        check.runs("terms at last", () -> x.terms(10, 50, 70));
        check.answers("less than the deductible", 0, () -> x.claim(0, 0, 9));
        check.answers("just the deductible", 0, () -> x.claim(0, 0, 10));
        check.answers("one above the deductible", 1, () -> x.claim(0, 0, 11));
        check.answers("above the limit", 50, () -> x.claim(0, 0, 61));
        check.answers("above the aggregate", 19, () -> x.claim(0, 0, 60));
        check.answers("nothing left", 0, () -> x.claim(0, 0, 60));
    }

    private static void termsRefusals() {
        CarrierBooks x = flat(10);
        x.bind(0, 10, 0, 0, 100);
        x.terms(10, 50, 70);
        int[][] wrong = {
            {-1, 1, 1}, {1000, 1, 1}, {0, 0, 1}, {0, 10000, 1}, {0, 1, 0}, {0, 1, 10000},
            {Integer.MIN_VALUE, 1, 1}, {0, Integer.MAX_VALUE, 1}, {0, 1, Integer.MIN_VALUE},
        };
        check.unchanged("wrong calls of terms", x, () -> {
            for (int[] w : wrong) {
                check.refuses("terms" + Arrays.toString(w), Check.ARGUMENT, () -> x.terms(w[0], w[1], w[2]));
            }
        });
        check.answers("the terms before the wrong ones", 50, () -> x.claim(0, 0, 61));
        check.refusesUnchanged("terms with a claim", Check.STATE, x, () -> x.terms(0, 9999, 9999));
        check.refuses("wrong terms with a claim", Check.STATE, () -> x.terms(-1, 0, 0));
        check.answers("the terms are as before", 20, () -> x.claim(0, 0, 61));
    }

    private static void layerIsUsed() {
        CarrierBooks x = flat(10);
        x.bind(0, 10, 0, 0, 100);
        check.runs("widest layer", () -> x.layer(9999, 9999, 3, 99));
        check.runs("least layer", () -> x.layer(0, 0, 0, 0));
        check.runs("layer with a policy", () -> x.layer(100, 40, 2, 30));
        x.claim(0, 0, 139);
        check.answers("layer part", 39, () -> x.settled(0, 4));
        check.answers("renewed", 39, () -> x.settled(0, 5));
        check.posted("recovered", x, 2, 5, 3, 39);
        check.posted("price of the renewed, rounded down", x, 3, 3, 2, 11);
    }

    private static void layerRefusals() {
        CarrierBooks x = flat(10);
        x.bind(0, 10, 0, 0, 100);
        x.layer(100, 40, 2, 30);
        int[][] wrong = {
            {-1, 0, 0, 0}, {10000, 0, 0, 0}, {0, -1, 0, 0}, {0, 10000, 0, 0},
            {0, 0, -1, 0}, {0, 0, 4, 0}, {0, 0, 0, -1}, {0, 0, 0, 100},
            {Integer.MAX_VALUE, 0, 0, 0}, {0, Integer.MIN_VALUE, 0, 0},
            {0, 0, Integer.MAX_VALUE, 0}, {0, 0, 0, Integer.MIN_VALUE},
        };
        check.unchanged("wrong calls of layer", x, () -> {
            for (int[] w : wrong) {
                check.refuses("layer" + Arrays.toString(w), Check.ARGUMENT, () -> x.layer(w[0], w[1], w[2], w[3]));
            }
        });
        x.claim(0, 0, 200);
        check.answers("the layer before the wrong ones", 40, () -> x.settled(0, 4));
        check.answers("its price", 12, () -> x.posting(3, 2));
        check.refusesUnchanged("layer with a claim", Check.STATE, x, () -> x.layer(0, 9999, 3, 99));
        check.refuses("wrong layer with a claim", Check.STATE, () -> x.layer(-1, 0, 0, 0));
        x.claim(0, 0, 200);
        check.answers("the layer is as before", 40, () -> x.settled(1, 4));
    }
}
