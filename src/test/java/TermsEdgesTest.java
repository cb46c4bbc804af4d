/** The boundary cases of promises 5 to 7: quota, terms, layer. */
public final class TermsEdgesTest {
    private static final Sentences sentences = new Sentences();
    private static final String FLAT = "row 0 49 0 9 10\n";
    /** A policy of 100 days, with a premium of 100. */
    private static final String BOUND = FLAT + "bind 0 100 0 0 100\n";
    /** Terms that differ in each number from those that are refused. */
    private static final String SET = BOUND + "terms 10 500 1000\nlayer 100 40 1 50\n";

    public static void main(String[] args) {
        quotaNumbers();
        quotaAtFirst();
        quotaRefused();
        deductible();
        limit();
        aggregate();
        termsAtFirst();
        termsRefused();
        retention();
        layer();
        times();
        price();
        layerAtFirst();
        layerRefused();
        sentences.end();
    }

    private static void quotaNumbers() {
        sentences.holds("and Q the QUOTA (0 .. 90, at first 0)", FLAT + """
                quota 91 = IAE
                quota 92 = IAE
                quota MAX = IAE
                quota -1 = IAE
                quota -2 = IAE
                quota MIN = IAE
                bind 0 100 0 0 100
                count 3 = 1
                """,
                quota(0) + "count 3 = 1\nclaim 0 0 100 = 100\nsettled 0 3 = 0\n",
                quota(1) + "posting 1 2 = 1\nclaim 0 0 100 = 100\nsettled 0 3 = 1\n",
                quota(89) + "posting 1 2 = 89\nclaim 0 0 100 = 100\nsettled 0 3 = 89\n",
                quota(90) + "posting 1 2 = 90\nclaim 0 0 100 = 100\nsettled 0 3 = 90\n");
    }

    private static String quota(int q) {
        return FLAT + "quota 45\nquota " + q + "\nbind 0 100 0 0 100\n";
    }

    private static void quotaAtFirst() {
        sentences.holds("and Q the QUOTA (0 .. 90, at first 0)", BOUND + """
                count 3 = 1
                balance 2 = 0
                balance 3 = 0
                change 0 0 2 200
                count 3 = 2
                cancel 0 0 plain
                count 3 = 3
                """);
    }

    private static void quotaRefused() {
        sentences.holds("Sets the quota. Throws IllegalStateException when there is a policy, then "
                + "IllegalArgumentException when q is not as said.", """
                quota 50
                row 0 49 0 9 10
                quota 20
                quota 91 = IAE
                bind 0 0 0 0 1 = IAE
                quota 30
                bind 0 100 0 0 100 = 0
                posting 1 2 = 30
                quota 0 = ISE
                quota 30 = ISE
                quota 90 = ISE
                quota -1 = ISE
                quota 91 = ISE
                quota MIN = ISE
                cancel 0 0 plain
                quota 40 = ISE
                bind 0 100 0 0 100 = 1
                posting 5 2 = 30
                quota 91 = ISE
                """, FLAT + "bind 0 1 0 0 1 = 0\ncount 3 = 0\nquota 0 = ISE\nquota -1 = ISE\n");
    }

    private static void deductible() {
        sentences.holds("a DEDUCTIBLE 0 .. 999", SET + """
                terms -1 100 100 = IAE
                terms -2 100 100 = IAE
                terms MIN 100 100 = IAE
                terms 1000 100 100 = IAE
                terms 1001 100 100 = IAE
                terms MAX 100 100 = IAE
                claim 0 0 11 = 1
                claim 0 0 9999 = 500
                """,
                BOUND + "terms 5 1 1\nterms 0 9999 9999\nclaim 0 0 1 = 1\n",
                BOUND + "terms 1 9999 9999\nclaim 0 0 1 = 0\nclaim 0 0 2 = 1\n",
                BOUND + "terms 998 9999 9999\nclaim 0 0 998 = 0\nclaim 0 0 999 = 1\nclaim 0 0 1000 = 2\n",
                BOUND + "terms 999 9999 9999\nclaim 0 0 999 = 0\nclaim 0 0 1000 = 1\nclaim 0 0 9999 = 9000\n");
    }

    private static void limit() {
        sentences.holds("a LIMIT 1 .. 9999", SET + """
                terms 7 0 100 = IAE
                terms 7 -1 100 = IAE
                terms 7 MIN 100 = IAE
                terms 7 10000 100 = IAE
                terms 7 10001 100 = IAE
                terms 7 MAX 100 = IAE
                claim 0 0 11 = 1
                claim 0 0 9999 = 500
                """,
                BOUND + "terms 0 1 9999\nclaim 0 0 9999 = 1\nclaim 0 0 1 = 1\n",
                BOUND + "terms 0 2 9999\nclaim 0 0 9999 = 2\nclaim 0 0 1 = 1\n",
                BOUND + "terms 0 9998 9999\nclaim 0 0 9999 = 9998\n",
                BOUND + "terms 0 1 9999\nterms 0 9999 9999\nclaim 0 0 9999 = 9999\n");
    }

    private static void aggregate() {
        sentences.holds("an AGGREGATE 1 .. 9999", SET + """
                terms 7 100 0 = IAE
                terms 7 100 -1 = IAE
                terms 7 100 MIN = IAE
                terms 7 100 10000 = IAE
                terms 7 100 10001 = IAE
                terms 7 100 MAX = IAE
                claim 0 0 9999 = 500
                claim 0 0 9999 = 500
                claim 0 0 9999 = 0
                """,
                BOUND + "terms 0 9999 1\nclaim 0 0 9999 = 1\nclaim 0 0 9999 = 0\n",
                BOUND + "terms 0 9999 2\nclaim 0 0 1 = 1\nclaim 0 0 9999 = 1\nclaim 0 0 9999 = 0\n",
                BOUND + "terms 0 9999 9998\nclaim 0 0 9999 = 9998\nclaim 0 0 9999 = 0\n",
                BOUND + "terms 0 9999 1\nterms 0 9999 9999\nclaim 0 0 9999 = 9999\nclaim 0 0 9999 = 0\n");
    }

    private static void termsAtFirst() {
        sentences.holds("(at first 0, 9999, 9999)",
                BOUND + "claim 0 0 1 = 1\n",
                BOUND + "claim 0 0 9999 = 9999\nclaim 0 0 1 = 0\n",
                BOUND + "claim 0 0 9998 = 9998\nclaim 0 0 9999 = 1\nclaim 0 0 9999 = 0\n");
    }

    private static void termsRefused() {
        sentences.holds("Sets the terms for claims. Throws IllegalStateException when there is a claim, then "
                + "IllegalArgumentException when a number is not as said.", """
                terms 1 2 3
                terms 10 50 70
                terms 0 0 0 = IAE
                row 0 49 0 9 10
                terms 20 60 80
                bind 0 100 0 0 100
                terms 30 70 90
                terms -1 70 90 = IAE
                claim 0 0 0 = IAE
                claim 0 100 5 = ISE
                terms 5 40 60
                claim 0 0 5 = 0
                count 2 = 1
                count 3 = 1
                terms 5 40 60 = ISE
                terms 0 9999 9999 = ISE
                terms -1 40 60 = ISE
                terms 5 0 60 = ISE
                terms 5 40 10000 = ISE
                claim 0 0 46 = 40
                terms 0 9999 9999 = ISE
                claim 0 0 46 = 20
                """);
    }

    private static void retention() {
        sentences.holds("a RETENTION 0 .. 9999", SET + """
                layer -1 30 2 10 = IAE
                layer -2 30 2 10 = IAE
                layer MIN 30 2 10 = IAE
                layer 10000 30 2 10 = IAE
                layer 10001 30 2 10 = IAE
                layer MAX 30 2 10 = IAE
                claim 0 0 510 = 500
                settled 0 4 = 40
                settled 0 5 = 40
                posting 3 2 = 20
                claim 0 0 9999 = 500
                settled 1 4 = 40
                settled 1 5 = 0
                """,
                BOUND + "layer 9 9999 0 0\nlayer 0 9999 0 0\nclaim 0 0 1\nsettled 0 4 = 1\n",
                BOUND + "layer 1 9999 0 0\nclaim 0 0 1\nsettled 0 4 = 0\nclaim 0 0 2\nsettled 1 4 = 1\n",
                BOUND + "layer 9998 9999 0 0\nclaim 0 0 9999\nsettled 0 4 = 1\n",
                BOUND + "layer 9999 9999 0 0\nclaim 0 0 9999\nsettled 0 4 = 0\n");
    }

    private static void layer() {
        sentences.holds("a LAYER 0 .. 9999", SET + """
                layer 70 -1 2 10 = IAE
                layer 70 -2 2 10 = IAE
                layer 70 MIN 2 10 = IAE
                layer 70 10000 2 10 = IAE
                layer 70 10001 2 10 = IAE
                layer 70 MAX 2 10 = IAE
                claim 0 0 510 = 500
                settled 0 4 = 40
                settled 0 5 = 40
                posting 3 2 = 20
                claim 0 0 9999 = 500
                settled 1 4 = 40
                settled 1 5 = 0
                """,
                BOUND + "layer 0 5 3 0\nlayer 0 0 3 99\nclaim 0 0 9999\nsettled 0 4 = 0\nsettled 0 5 = 0\n",
                BOUND + "layer 0 1 3 99\nclaim 0 0 9998\nsettled 0 4 = 1\nclaim 0 0 1\nsettled 1 4 = 1\n",
                BOUND + "layer 0 9998 0 0\nclaim 0 0 9999\nsettled 0 4 = 9998\n",
                BOUND + "layer 0 9999 0 0\nclaim 0 0 9999\nsettled 0 4 = 9999\n");
    }

    private static void times() {
        sentences.holds("TIMES 0 .. 3", SET + """
                layer 70 30 -1 10 = IAE
                layer 70 30 -2 10 = IAE
                layer 70 30 MIN 10 = IAE
                layer 70 30 4 10 = IAE
                layer 70 30 5 10 = IAE
                layer 70 30 MAX 10 = IAE
                claim 0 0 510 = 500
                settled 0 4 = 40
                settled 0 5 = 40
                posting 3 2 = 20
                claim 0 0 9999 = 500
                settled 1 4 = 40
                settled 1 5 = 0
                """,
                BOUND + "layer 0 7 2 0\nlayer 0 7 0 0\n" + partsOfNine("7 0 0 0 0"),
                BOUND + "layer 0 7 1 0\n" + partsOfNine("7 7 0 0 0"),
                BOUND + "layer 0 7 2 0\n" + partsOfNine("7 7 7 0 0"),
                BOUND + "layer 0 7 3 0\n" + partsOfNine("7 7 7 7 0"));
    }

    private static String partsOfNine(String parts) {
        StringBuilder text = new StringBuilder();
        int k = 0;
        for (String part : parts.split(" ")) {
            text.append("claim 0 0 9\nsettled " + k + " 4 = " + part + "\n");
            k++;
        }
        return text.toString();
    }

    private static void price() {
        sentences.holds("a PRICE 0 .. 99 (at first 0)", SET + """
                layer 70 30 2 -1 = IAE
                layer 70 30 2 -2 = IAE
                layer 70 30 2 MIN = IAE
                layer 70 30 2 100 = IAE
                layer 70 30 2 101 = IAE
                layer 70 30 2 MAX = IAE
                claim 0 0 510 = 500
                settled 0 4 = 40
                settled 0 5 = 40
                posting 3 2 = 20
                claim 0 0 9999 = 500
                settled 1 4 = 40
                settled 1 5 = 0
                """,
                BOUND + "layer 0 100 1 9\nlayer 0 100 1 0\nclaim 0 0 100\ncount 3 = 3\nbalance 2 = 0\n",
                BOUND + "layer 0 100 1 1\nclaim 0 0 100\ncount 3 = 4\nposting 3 2 = 1\n",
                BOUND + "layer 0 100 1 98\nclaim 0 0 100\ncount 3 = 4\nposting 3 2 = 98\n",
                BOUND + "layer 0 100 1 99\nclaim 0 0 100\ncount 3 = 4\nposting 3 2 = 99\n");
    }

    private static void layerAtFirst() {
        sentences.holds("(at first 9999 and 0) and TIMES 0 .. 3 (at first 0), and a PRICE 0 .. 99 (at first 0)",
                BOUND + """
                claim 0 0 9999 = 9999
                settled 0 3 = 0
                settled 0 4 = 0
                settled 0 5 = 0
                count 3 = 2
                """);
    }

    private static void layerRefused() {
        sentences.holds("Sets the terms of the layer. Throws IllegalStateException when there is a claim, then "
                + "IllegalArgumentException when a number is not as said.", """
                layer 1 2 3 4
                layer 0 0 4 0 = IAE
                row 0 49 0 9 10
                layer 100 200 3 4
                bind 0 100 0 0 100
                layer 100 40 1 50
                layer -1 40 1 50 = IAE
                claim 0 0 10000 = IAE
                claim 0 999 5 = ISE
                layer 10 40 2 50
                claim 0 0 10
                settled 0 4 = 0
                layer 10 40 2 50 = ISE
                layer 0 9999 3 99 = ISE
                layer -1 40 2 50 = ISE
                layer 10 10000 2 50 = ISE
                layer 10 40 4 50 = ISE
                layer 10 40 2 100 = ISE
                claim 0 0 60
                settled 1 4 = 40
                settled 1 5 = 40
                posting 4 2 = 20
                layer 0 9999 3 99 = ISE
                """, BOUND + "terms 9 1 1\nclaim 0 0 9 = 0\nlayer 0 0 0 0 = ISE\nlayer 0 0 4 0 = ISE\n");
    }
}
