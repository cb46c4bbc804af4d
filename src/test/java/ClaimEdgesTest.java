/** The boundary cases of promises 12 and 17: claim, settled. */
public final class ClaimEdgesTest {
    private static final Sentences sentences = new Sentences();
    private static final String PLAN = "row 0 49 0 9 9\n";
    /** A policy with the term 10 .. 109 and a premium of 0, so that all postings are of claims. */
    private static final String BOUND = PLAN + "bind 10 100 0 0 1\n";
    private static final String TWO = PLAN + "bind 10 100 0 0 1\nbind 10 100 0 0 1\ncancel 1 60 plain\n";

    public static void main(String[] args) {
        policies();
        days();
        losses();
        inForce();
        atMostTwentyClaims();
        refused();
        paidIsAtLeastNothing();
        paidIsAtMostTheLimit();
        paidIsAtMostTheAggregate();
        aggregateOfEachPolicy();
        quotaPart();
        layerPartIsAtLeastNothing();
        layerPartIsAtMostTheLayer();
        layerPartIsAtMostWhatIsLeft();
        renewedIsAtMostWhatIsLeft();
        postings();
        settled();
        sentences.end();
    }

    private static void policies() {
        sentences.holds("Throws NoSuchElementException when there is no such policy [claim]", PLAN + """
                claim 0 10 5 = NSE
                bind 10 100 0 0 1
                claim -1 10 5 = NSE
                claim MIN 10 5 = NSE
                claim 1 10 5 = NSE
                claim 2 10 5 = NSE
                claim 5 10 5 = NSE
                claim 6 10 5 = NSE
                claim MAX 10 5 = NSE
                claim 0 10 5 = 5
                settled 0 0 = 0
                """, PLAN + "bind 10 100 0 0 1\n".repeat(6) + """
                claim 6 10 5 = NSE
                claim 5 10 5 = 5
                claim 4 10 5 = 5
                settled 0 0 = 5
                settled 1 0 = 4
                """);
    }

    private static void days() {
        sentences.holds("IllegalArgumentException when day or loss is not as said [claim: DAYS are 0 .. 999]",
                PLAN + """
                bind 0 200 0 0 1
                bind 900 100 0 0 1
                claim 0 -1 5 = IAE
                claim 0 -2 5 = IAE
                claim 0 MIN 5 = IAE
                claim 1 1000 5 = IAE
                claim 1 1001 5 = IAE
                claim 1 MAX 5 = IAE
                claim 0 0 5 = 5
                settled 0 1 = 0
                claim 0 1 5 = 5
                settled 1 1 = 1
                claim 1 998 5 = 5
                settled 2 1 = 998
                claim 1 999 5 = 5
                settled 3 1 = 999
                """, BOUND + """
                claim 0 -1 5 = IAE
                claim 0 0 5 = ISE
                claim 0 1 5 = ISE
                claim 0 998 5 = ISE
                claim 0 999 5 = ISE
                claim 0 1000 5 = IAE
                """);
    }

    private static void losses() {
        sentences.holds("a LOSS 1 .. 9999", BOUND + """
                claim 0 10 0 = IAE
                claim 0 10 -1 = IAE
                claim 0 10 MIN = IAE
                claim 0 10 10000 = IAE
                claim 0 10 10001 = IAE
                claim 0 10 MAX = IAE
                claim 0 10 1 = 1
                claim 0 10 2 = 2
                claim 0 10 9996 = 9996
                """, BOUND + "claim 0 10 9998 = 9998\n", BOUND + "claim 0 10 9999 = 9999\n");
    }

    private static void inForce() {
        sentences.holds("IllegalStateException when it is not in force on that day as of now [claim]", PLAN + """
                bind 10 100 0 0 1
                cancel 0 60 plain
                reinstate 0 80
                claim 0 9 5 = ISE
                claim 0 10 1 = 1
                claim 0 11 2 = 2
                claim 0 59 3 = 3
                claim 0 60 5 = ISE
                claim 0 61 5 = ISE
                claim 0 79 5 = ISE
                claim 0 80 4 = 4
                claim 0 109 5 = 5
                claim 0 110 5 = ISE
                claim 0 111 5 = ISE
                cancel 0 10 plain
                claim 0 10 5 = ISE
                claim 0 59 5 = ISE
                claim 0 80 6 = 6
                reinstate 0 10
                claim 0 10 7 = 7
                count 2 = 7
                """);
    }

    private static void atMostTwentyClaims() {
        sentences.holds("CLAIMS have numbers 0, 1, .., at most 20", BOUND + "claim 0 10 5 = 5\n".repeat(18) + """
                count 2 = 18
                claim 0 11 6 = 6
                count 2 = 19
                settled 18 1 = 11
                settled 19 1 = NSE
                claim 0 12 7 = 7
                count 2 = 20
                settled 19 1 = 12
                claim 0 13 8 = ISE
                claim 0 13 1 = ISE
                count 2 = 20
                settled 20 1 = NSE
                """);
        sentences.holds("or there are 20 claims", BOUND + "terms 5 1 1\n" + "claim 0 10 5 = 0\n".repeat(20) + """
                count 2 = 20
                count 3 = 0
                claim 0 10 5 = ISE
                """);
    }

    private static void refused() {
        sentences.holds("of several exceptions the first is thrown whose condition holds [claim]", TWO + """
                claim 2 1000 0 = NSE
                claim 2 60 5 = NSE
                claim -1 -1 5 = NSE
                claim 1 60 0 = IAE
                claim 1 60 10000 = IAE
                claim 0 1000 5 = IAE
                claim 0 9 0 = IAE
                claim 0 110 10000 = IAE
                claim 1 60 5 = ISE
                claim 1 59 5 = 5
                """, TWO + "claim 0 10 5\n".repeat(20) + """
                claim 2 10 5 = NSE
                claim 2 -1 0 = NSE
                claim 0 -1 5 = IAE
                claim 0 1000 5 = IAE
                claim 0 10 0 = IAE
                claim 1 60 10000 = IAE
                claim 1 60 5 = ISE
                claim 0 10 5 = ISE
                """, TWO + "claim 0 10 5\n".repeat(19) + """
                claim 2 10 5 = NSE
                claim 0 10 0 = IAE
                claim 1 60 5 = ISE
                claim 0 10 5 = 5
                """);
    }

    private static void paidIsAtLeastNothing() {
        sentences.holds("PAID: the loss less the deductible, but at least 0", BOUND + """
                terms 100 9999 9999
                claim 0 10 1 = 0
                claim 0 10 99 = 0
                claim 0 10 100 = 0
                claim 0 10 101 = 1
                claim 0 10 102 = 2
                settled 0 2 = 0
                settled 2 2 = 0
                settled 3 2 = 1
                settled 4 2 = 2
                """);
    }

    private static void paidIsAtMostTheLimit() {
        sentences.holds("at most LIMIT", BOUND + """
                terms 10 500 9999
                claim 0 10 509 = 499
                claim 0 10 510 = 500
                claim 0 10 511 = 500
                claim 0 10 9999 = 500
                settled 2 2 = 500
                """, BOUND + "terms 10 500 499\nclaim 0 10 9999 = 499\n",
                BOUND + "terms 10 500 500\nclaim 0 10 9999 = 500\n",
                BOUND + "terms 10 500 501\nclaim 0 10 9999 = 500\nclaim 0 10 9999 = 1\n");
    }

    private static void paidIsAtMostTheAggregate() {
        String used = BOUND + "terms 10 500 1000\nclaim 0 10 9999 = 500\nclaim 0 10 110 = 100\n";
        sentences.holds("at most what is left of the policy's AGGREGATE (less all that was paid for it before)",
                used + "claim 0 10 409 = 399\nclaim 0 10 9999 = 1\nclaim 0 10 9999 = 0\n",
                used + "claim 0 10 410 = 400\nclaim 0 10 11 = 0\nclaim 0 10 9999 = 0\n",
                used + "claim 0 10 411 = 400\nclaim 0 10 11 = 0\nclaim 0 10 9999 = 0\n",
                used + "claim 0 10 5 = 0\nclaim 0 10 9999 = 400\nclaim 0 10 9999 = 0\nsettled 4 2 = 0\n",
                used + "cancel 0 10 plain\nreinstate 0 50\nclaim 0 50 9999 = 400\nclaim 0 50 9999 = 0\n");
    }

    private static void aggregateOfEachPolicy() {
        sentences.holds("what is left of the policy's AGGREGATE (less all that was paid for it before)", TWO + """
                terms 0 9999 1000
                claim 0 10 1000 = 1000
                claim 1 10 999 = 999
                claim 0 10 1 = 0
                claim 1 10 9999 = 1
                claim 1 10 9999 = 0
                """, PLAN + "terms 0 9999 100\n" + "bind 10 100 0 0 1\n".repeat(6) + """
                claim 5 10 101 = 100
                claim 0 10 101 = 100
                claim 4 10 99 = 99
                claim 4 10 2 = 1
                claim 5 10 1 = 0
                """);
    }

    private static void quotaPart() {
        sentences.holds("The QUOTA PART: PAID times Q, divided by 100 and rounded down.",
                quotaParts(10, "9 0", "10 1", "11 1", "19 1", "20 2", "21 2"),
                quotaParts(0, "1 0", "9000 0"),
                quotaParts(1, "99 0", "100 1", "101 1", "199 1", "200 2"),
                quotaParts(90, "1 0", "2 1", "3 2", "10 9", "11 9", "12 10"),
                quotaParts(90, "9999 8999"),
                PLAN + "quota 50\nterms 100 10 9999\nbind 10 100 0 0 1\nclaim 0 10 9999 = 10\nsettled 0 3 = 5\n");
    }

    private static String quotaParts(int quota, String... paidAndParts) {
        StringBuilder text = new StringBuilder(PLAN + "quota " + quota + "\nbind 10 100 0 0 1\n");
        int k = 0;
        for (String pair : paidAndParts) {
            String[] words = pair.split(" ");
            text.append("claim 0 10 " + words[0] + " = " + words[0] + "\nsettled " + k + " 3 = " + words[1] + "\n");
            k++;
        }
        return text.toString();
    }

    private static void layerPartIsAtLeastNothing() {
        sentences.holds("The LAYER PART: PAID less the quota part and RETENTION, but at least 0", BOUND + """
                layer 100 50 3 0
                claim 0 10 1
                settled 0 4 = 0
                claim 0 10 99
                settled 1 4 = 0
                claim 0 10 100
                settled 2 4 = 0
                claim 0 10 101
                settled 3 4 = 1
                claim 0 10 102
                settled 4 4 = 2
                """, PLAN + """
                quota 50
                layer 100 50 3 0
                bind 10 100 0 0 1
                claim 0 10 199
                settled 0 3 = 99
                settled 0 4 = 0
                claim 0 10 200
                settled 1 4 = 0
                claim 0 10 201
                settled 2 3 = 100
                settled 2 4 = 1
                """);
    }

    private static void layerPartIsAtMostTheLayer() {
        sentences.holds("at most LAYER", BOUND + """
                layer 100 50 3 0
                claim 0 10 149
                settled 0 4 = 49
                claim 0 10 150
                settled 1 4 = 50
                claim 0 10 151
                settled 2 4 = 50
                """, BOUND + "layer 100 50 3 0\nclaim 0 10 9999\nsettled 0 4 = 50\n",
                BOUND + "layer 0 0 3 0\nclaim 0 10 9999\nsettled 0 4 = 0\n");
    }

    private static void layerPartIsAtMostWhatIsLeft() {
        String used = TWO + "layer 100 50 1 0\nclaim 0 10 130\nsettled 0 4 = 30\nclaim 1 10 150\nsettled 1 4 = 50\n";
        sentences.holds("and at most what is left of LAYER times (1 + TIMES), less all layer parts before",
                used + "claim 0 10 119\nsettled 2 4 = 19\nclaim 0 10 150\nsettled 3 4 = 1\n"
                        + "claim 0 10 150\nsettled 4 4 = 0\n",
                used + "claim 0 10 120\nsettled 2 4 = 20\nclaim 0 10 101\nsettled 3 4 = 0\n",
                used + "claim 0 10 121\nsettled 2 4 = 20\nclaim 1 10 101\nsettled 3 4 = 0\n",
                used + "claim 1 10 100\nsettled 2 4 = 0\nclaim 1 10 9749\nsettled 3 4 = 20\n"
                        + "claim 0 10 200\nsettled 4 4 = 0\n",
                TWO + "layer 0 50 0 0\nclaim 0 10 49\nsettled 0 4 = 49\nclaim 0 10 49\nsettled 1 4 = 1\n",
                PLAN + "layer 0 9999 3 0\n" + "bind 10 100 0 0 1\n".repeat(6) + """
                claim 0 10 9999
                claim 1 10 9999
                claim 2 10 9999
                claim 3 10 9998
                settled 3 4 = 9998
                settled 3 5 = 0
                claim 4 10 9999
                settled 4 4 = 1
                claim 5 10 9999
                settled 5 4 = 0
                balance 3 = 39996
                """);
    }

    private static void renewedIsAtMostWhatIsLeft() {
        String used = TWO + "layer 100 50 1 0\nclaim 0 10 130\nsettled 0 5 = 30\n";
        sentences.holds("The RENEWED: the layer part, but at most what is left of LAYER times TIMES, "
                + "less all that was renewed before.",
                used + "claim 1 10 119\nsettled 1 5 = 19\nclaim 0 10 150\nsettled 2 4 = 50\nsettled 2 5 = 1\n",
                used + "claim 1 10 120\nsettled 1 5 = 20\nclaim 0 10 150\nsettled 2 4 = 50\nsettled 2 5 = 0\n",
                used + "claim 1 10 121\nsettled 1 4 = 21\nsettled 1 5 = 20\nclaim 0 10 101\nsettled 2 5 = 0\n",
                BOUND + "layer 100 50 0 99\nclaim 0 10 150\nsettled 0 4 = 50\nsettled 0 5 = 0\ncount 3 = 2\n",
                BOUND + """
                layer 100 50 3 0
                claim 0 10 150
                settled 0 5 = 50
                claim 0 10 150
                settled 1 5 = 50
                claim 0 10 149
                settled 2 5 = 49
                claim 0 10 150
                settled 3 4 = 50
                settled 3 5 = 1
                claim 0 10 150
                settled 4 4 = 1
                settled 4 5 = 0
                """);
    }

    private static void postings() {
        sentences.holds("A claim posts PAID from HOLDERS to CLAIMS", BOUND + """
                terms 5 9999 9999
                claim 0 10 5 = 0
                count 3 = 0
                claim 0 10 6 = 1
                count 3 = 1
                posting 0 0 = 1
                posting 0 1 = 4
                posting 0 2 = 1
                claim 0 10 7 = 2
                posting 1 2 = 2
                balance 1 = -3
                balance 4 = 3
                """);
        sentences.holds("the quota part and the layer part together from RECOVERIES to REINSURERS", PLAN + """
                quota 10
                layer 20 50 0 0
                bind 10 100 0 0 1
                claim 0 10 9
                count 3 = 1
                claim 0 10 10
                count 3 = 3
                posting 2 0 = 5
                posting 2 1 = 3
                posting 2 2 = 1
                claim 0 10 30
                settled 2 3 = 3
                settled 2 4 = 7
                count 3 = 5
                posting 4 2 = 10
                balance 5 = -11
                balance 3 = 11
                """, BOUND + "layer 20 50 0 0\nclaim 0 10 20\ncount 3 = 1\nclaim 0 10 21\n"
                        + "count 3 = 3\nposting 2 2 = 1\n");
        sentences.holds("RENEWED times PRICE, divided by 100 and rounded down, from REINSURERS to CEDED", BOUND + """
                layer 0 500 3 50
                claim 0 10 1
                settled 0 5 = 1
                count 3 = 2
                claim 0 10 2
                count 3 = 5
                posting 4 0 = 3
                posting 4 1 = 2
                posting 4 2 = 1
                claim 0 10 3
                posting 7 2 = 1
                claim 0 10 4
                posting 10 2 = 2
                balance 2 = 4
                balance 3 = 6
                """, BOUND + """
                layer 0 500 3 99
                claim 0 10 1
                count 3 = 2
                claim 0 10 2
                posting 4 2 = 1
                claim 0 10 100
                posting 7 2 = 99
                claim 0 10 101
                posting 10 2 = 99
                claim 0 10 102
                posting 13 2 = 100
                """);
    }

    private static void settled() {
        sentences.holds("Of claim k: 0 the policy, 1 the day, 2 PAID, 3 the quota part, 4 the layer part, 5 RENEWED. "
                + "Throws NoSuchElementException when there is no such claim or what.", PLAN + """
                settled 0 0 = NSE
                quota 10
                terms 5 9999 9999
                layer 20 50 1 0
                bind 10 100 0 0 1
                bind 10 100 0 0 1
                settled 0 0 = NSE
                claim 1 77 105 = 100
                settled 0 -2 = NSE
                settled 0 -1 = NSE
                settled 0 0 = 1
                settled 0 1 = 77
                settled 0 2 = 100
                settled 0 3 = 10
                settled 0 4 = 50
                settled 0 5 = 50
                settled 0 6 = NSE
                settled 0 7 = NSE
                settled 0 MIN = NSE
                settled 0 MAX = NSE
                settled -1 0 = NSE
                settled -1 5 = NSE
                settled -1 6 = NSE
                settled 1 0 = NSE
                settled 1 5 = NSE
                settled 1 -6 = NSE
                settled 2 0 = NSE
                settled 20 0 = NSE
                settled MIN 0 = NSE
                settled MAX 0 = NSE
                settled 715827883 0 = NSE
                settled -715827882 0 = NSE
                claim 0 78 25 = 20
                settled 1 0 = 0
                settled 1 1 = 78
                settled 1 2 = 20
                settled 1 3 = 2
                settled 1 4 = 0
                settled 1 5 = 0
                settled 2 0 = NSE
                """);
    }
}
