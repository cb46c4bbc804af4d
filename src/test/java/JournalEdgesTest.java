/** The boundary cases of promises 18 and 19, of what a booking posts, and of the most postings that there may be. */
public final class JournalEdgesTest {
    private static final Sentences sentences = new Sentences();
    private static final String PLAN = "row 0 49 0 9 10\n";
    private static final String LAYER = "terms 3 9999 9999\nlayer 5 9999 3 99\n";
    private static final String BALANCES =
            "balance 0\nbalance 1\nbalance 2\nbalance 3\nbalance 4\nbalance 5\nbalance 6\n";
    private static final int MOST = 90;

    public static void main(String[] args) {
        posting();
        balance();
        offAndOnto();
        differences();
        quotaOfADifference();
        fees();
        feesOfShortCancelsAlone();
        atMostNinetyByBind();
        atMostNinetyByChange();
        atMostNinetyByCancel();
        atMostNinetyByReinstate();
        atMostNinetyByClaim();
        atMostNinetyWithoutQuota();
        fullAndOtherwiseRefused();
        fullAndFortyBookings();
        fullAndTwentyClaims();
        fullAndSixPolicies();
        sentences.end();
    }

    private static void posting() {
        sentences.holds("Of posting k: 0 the account from which, 1 the account to which, 2 the amount. "
                + "Throws NoSuchElementException when there is no such posting or what.", PLAN + """
                posting 0 0 = NSE
                quota 10
                bind 0 100 0 0 100
                posting 0 -2 = NSE
                posting 0 -1 = NSE
                posting 0 0 = 0
                posting 0 1 = 1
                posting 0 2 = 100
                posting 0 3 = NSE
                posting 0 4 = NSE
                posting 0 MIN = NSE
                posting 0 MAX = NSE
                posting 1 -3 = NSE
                posting 1 0 = 3
                posting 1 1 = 2
                posting 1 2 = 10
                posting 1 3 = NSE
                posting 2 0 = NSE
                posting 2 -3 = NSE
                posting 3 0 = NSE
                posting -1 0 = NSE
                posting -1 2 = NSE
                posting -1 3 = NSE
                posting 90 0 = NSE
                posting MIN 0 = NSE
                posting MAX 0 = NSE
                posting 1431655766 0 = NSE
                posting -1431655765 0 = NSE
                """, full(MOST) + """
                posting 88 2 = 5
                posting 89 0 = 1
                posting 89 1 = 4
                posting 89 2 = 5
                posting 89 3 = NSE
                posting 90 0 = NSE
                posting 91 0 = NSE
                """, full(MOST - 1) + """
                posting 88 2 = 5
                posting 89 0 = NSE
                """);
    }

    private static void balance() {
        sentences.holds("The balance of an account. Throws NoSuchElementException when there is none.", """
                balance -2 = NSE
                balance -1 = NSE
                balance 0 = 0
                balance 6 = 0
                balance 7 = NSE
                balance 8 = NSE
                balance MIN = NSE
                balance MAX = NSE
                """, PLAN + LAYER + """
                quota 10
                bind 0 100 0 0 100
                cancel 0 50 short
                claim 0 0 13
                balance -1 = NSE
                balance 0 = -50
                balance 1 = 45
                balance 2 = 8
                balance 3 = -3
                balance 4 = 10
                balance 5 = -5
                balance 6 = -5
                balance 7 = NSE
                """);
    }

    private static void offAndOnto() {
        sentences.holds("the amount goes off the BALANCE of the first, and onto that of the second (all 0 at first)",
                PLAN + LAYER + """
                quota 10
                balance 0 = 0
                balance 1 = 0
                bind 0 100 0 0 9
                count 3 = 1
                balance 0 = -9
                balance 1 = 9
                balance 2 = 0
                balance 3 = 0
                change 0 0 2 19
                count 3 = 3
                balance 0 = -19
                balance 1 = 19
                balance 2 = 1
                balance 3 = -1
                claim 0 0 8
                count 3 = 4
                balance 1 = 14
                balance 4 = 5
                claim 0 0 9
                count 3 = 6
                balance 1 = 8
                balance 4 = 11
                balance 5 = -1
                balance 3 = 0
                cancel 0 0 short
                count 3 = 9
                balance 0 = 0
                balance 1 = -10
                balance 2 = -1
                balance 3 = 2
                balance 4 = 11
                balance 5 = -1
                balance 6 = -1
                """);
    }

    private static void differences() {
        sentences.holds("TO POST an amount from x to y: if it is 0, nothing; if it is below 0, "
                + "the amount without its sign from y to x.", PLAN + """
                bind 0 100 0 0 100
                change 0 0 2 101
                count 3 = 2
                posting 1 0 = 0
                posting 1 1 = 1
                posting 1 2 = 1
                change 0 0 1 5
                change 0 0 2 101
                count 3 = 2
                change 0 0 2 100
                count 3 = 3
                posting 2 0 = 1
                posting 2 1 = 0
                posting 2 2 = 1
                balance 0 = -100
                balance 1 = 100
                """);
        sentences.holds("D being WRITTEN as of it less WRITTEN as of the one before it", """
                row 0 49 0 9 1
                bind 0 3 0 0 333
                count 3 = 0
                change 0 2 2 334
                posting 0 2 = 1
                change 0 2 2 999
                count 3 = 1
                change 0 1 2 999
                posting 1 2 = 1
                change 0 1 2 334
                count 3 = 3
                posting 2 0 = 1
                posting 2 2 = 1
                """);
    }

    private static void quotaOfADifference() {
        sentences.holds("A quotient with \"rounded down\" goes to the next lesser whole number, also below 0. "
                + "[D times Q, divided by 100 and rounded down, from REINSURERS to CEDED]",
                ceded(10, 9, 0), ceded(10, 10, 1), ceded(10, 11, 1), ceded(10, 19, 1), ceded(10, 20, 2),
                ceded(10, -1, -1), ceded(10, -9, -1), ceded(10, -10, -1), ceded(10, -11, -2), ceded(10, -19, -2),
                ceded(10, -20, -2), ceded(10, -21, -3),
                ceded(1, 1, 0), ceded(1, 99, 0), ceded(1, 100, 1), ceded(1, -1, -1), ceded(1, -99, -1),
                ceded(1, -100, -1), ceded(1, -101, -2),
                ceded(90, 1, 0), ceded(90, 2, 1), ceded(90, -1, -1), ceded(90, -2, -2), ceded(90, -10, -9),
                ceded(90, -11, -10), ceded(0, 1, 0), ceded(0, -1, 0), ceded(0, 400, 0), ceded(0, -400, 0));
    }

    /** A change that makes a difference to the premium, and what of it is ceded. */
    private static String ceded(int quota, int difference, int due) {
        int first = quota == 0 ? 1 : 2;
        String text = PLAN + "quota " + quota + "\nbind 0 100 0 0 500\ncount 3 = " + first + "\n"
                + "change 0 0 2 " + (500 + difference) + "\nposting " + first + " 2 = " + Math.abs(difference) + "\n";
        if (due == 0) {
            return text + "count 3 = " + (first + 1) + "\n";
        }
        int second = first + 1;
        return text + "count 3 = " + (second + 1) + "\n"
                + "posting " + second + " 0 = " + (due > 0 ? 3 : 2) + "\n"
                + "posting " + second + " 1 = " + (due > 0 ? 2 : 3) + "\n"
                + "posting " + second + " 2 = " + Math.abs(due) + "\n"
                + "balance 2 = " + (5 * quota + due) + "\nbalance 3 = " + -(5 * quota + due) + "\n";
    }

    private static void fees() {
        sentences.holds("and for a CANCEL that is SHORT, and D below 0: -D divided by 10, rounded down, from "
                + "FEES to HOLDERS",
                fee(99, 0), fee(92, 0), fee(91, 0), fee(90, 1), fee(89, 1), fee(81, 1), fee(80, 2), fee(79, 2),
                fee(1, 9), fee(0, 10));
    }

    /** A short cancel of a policy that earns 1 a day up to day 99, and its fee. */
    private static String fee(int day, int due) {
        String text = PLAN + "bind 0 100 0 0 100\ncancel 0 " + day + " short = 1\nposting 1 0 = 1\nposting 1 1 = 0\n"
                + "posting 1 2 = " + (100 - day) + "\nbalance 6 = " + -due + "\nbalance 1 = " + (day + due) + "\n";
        return due == 0 ? text + "count 3 = 2\n"
                : text + "count 3 = 3\nposting 2 0 = 6\nposting 2 1 = 1\nposting 2 2 = " + due + "\n";
    }

    private static void feesOfShortCancelsAlone() {
        sentences.holds("and for a CANCEL that is SHORT, and D below 0",
                PLAN + "bind 0 100 0 0 100\ncancel 0 0 plain\ncount 3 = 2\nbalance 6 = 0\nbalance 1 = 0\n",
                PLAN + "bind 0 100 0 0 100\nchange 0 0 2 1\ncount 3 = 2\nbalance 6 = 0\nbalance 1 = 1\n",
                PLAN + "bind 0 99 0 0 1\ncancel 0 0 short\ncount 3 = 0\nbalance 6 = 0\n",
                PLAN + "bind 0 100 0 0 100\ncancel 0 0 short\nreinstate 0 0\ncount 3 = 4\n"
                        + "balance 6 = -10\nbalance 1 = 110\n",
                PLAN + "quota 50\nbind 0 100 0 0 100\ncancel 0 0 short\ncount 3 = 5\n"
                + "posting 2 0 = 1\nposting 3 0 = 2\nposting 4 0 = 6\n");
    }

    /**
     * 83 to 90 postings by 29 bookings and 10 to 17 claims. Of the policies with the term 0 .. 99, number 0 writes
     * 100 and is in force, 1 writes 200 and is cancelled from day 50 on, 2 writes 9 and is cancelled; number 3 has
     * two days and no premium and is cancelled from its second day on. A claim of 8 posts once, of 9 twice, of 13
     * three times.
     */
    private static String full(int postings) {
        return PLAN + LAYER + """
                quota 10
                bind 0 100 0 0 100
                bind 0 100 0 0 200
                cancel 1 50 plain
                bind 0 100 0 0 9
                cancel 2 0 plain
                bind 0 2 0 0 1
                cancel 3 1 plain
                """ + "claim 0 0 13\n".repeat(10) + "change 0 0 2 200\nchange 0 0 2 100\n".repeat(11)
                + "claim 0 0 8\n".repeat(postings - 83) + "count 3 = " + postings + "\n";
    }

    /** The same without a quota: 33 to 37 bookings and 18 claims; policy 0 is in force, policy 1 writes 200. */
    private static String fullWithoutQuota(int postings) {
        return PLAN + LAYER + "bind 0 100 0 0 100\nbind 0 100 0 0 200\n" + "claim 0 0 13\n".repeat(18)
                + "change 0 0 2 200\nchange 0 0 2 100\n".repeat((postings - 56) / 2)
                + (postings % 2 == 1 ? "change 0 0 2 200\n" : "") + "count 3 = " + postings + "\n";
    }

    private interface Scene {
        String with(int postings);
    }

    /** A call that posts so often must fit into 90 postings, and be refused if one more is there before it. */
    private static void fits(Scene scene, String call, int postings) {
        for (int before : new int[] {MOST - 1 - postings, MOST - postings}) {
            sentences.holds("THE JOURNAL has POSTINGS, at most 90", scene.with(before) + call + "\n"
                    + "count 3 = " + (before + postings) + "\n" + BALANCES);
        }
        for (int before = MOST + 1 - postings; before <= MOST; before++) {
            sentences.holds("UnsupportedOperationException: the postings would be more than 90.",
                    scene.with(before) + call + " = UOE\ncount 3 = " + before + "\n" + call + " = UOE\n" + BALANCES);
        }
    }

    private static void atMostNinetyByBind() {
        fits(JournalEdgesTest::full, "bind 0 1 0 0 1", 0);
        fits(JournalEdgesTest::full, "bind 0 100 0 0 9", 1);
        fits(JournalEdgesTest::full, "bind 0 100 0 0 10", 2);
        sentences.holds("A call that throws changes nothing [bind]", full(MOST - 1) + """
                bind 0 100 0 0 10 = UOE
                count 0 = 4
                count 1 = 29
                fact 4 0 0 99 = NSE
                bind 5 100 1 2 9 = 4
                fact 4 0 4 29 = -1
                fact 4 0 5 29 = 1
                fact 4 1 104 29 = 2
                posting 89 2 = 9
                """);
    }

    private static void atMostNinetyByChange() {
        fits(JournalEdgesTest::full, "change 0 0 1 5", 0);
        fits(JournalEdgesTest::full, "change 0 0 2 109", 1);
        fits(JournalEdgesTest::full, "change 0 0 2 110", 2);
        fits(JournalEdgesTest::full, "change 0 0 2 99", 2);
        sentences.holds("A call that throws changes nothing [change]", full(MOST - 1) + """
                change 0 0 2 110 = UOE
                fact 0 2 0 99 = 100
                written 0 99 = 100
                count 1 = 29
                change 0 0 2 109 = 29
                posting 89 2 = 9
                """);
    }

    private static void atMostNinetyByCancel() {
        fits(JournalEdgesTest::full, "cancel 3 0 short", 0);
        fits(JournalEdgesTest::full, "cancel 0 0 plain", 2);
        fits(JournalEdgesTest::full, "cancel 0 91 short", 2);
        fits(JournalEdgesTest::full, "cancel 0 90 short", 3);
        sentences.holds("A call that throws changes nothing [cancel]", full(MOST - 2) + """
                cancel 0 90 short = UOE
                fact 0 3 90 99 = 1
                written 0 99 = 100
                cancel 0 90 plain = 29
                posting 88 2 = 10
                posting 89 2 = 1
                """);
    }

    private static void atMostNinetyByReinstate() {
        fits(JournalEdgesTest::full, "reinstate 3 1", 0);
        fits(JournalEdgesTest::full, "reinstate 2 0", 1);
        fits(JournalEdgesTest::full, "reinstate 1 50", 2);
        fits(JournalEdgesTest::full, "reinstate 1 95", 2);
        sentences.holds("A call that throws changes nothing [reinstate]", full(MOST - 1) + """
                reinstate 1 50 = UOE
                fact 1 3 50 99 = 0
                written 1 99 = 100
                reinstate 2 0 = 29
                posting 89 2 = 9
                """);
    }

    private static void atMostNinetyByClaim() {
        fits(JournalEdgesTest::full, "claim 0 0 3", 0);
        fits(JournalEdgesTest::full, "claim 0 0 8", 1);
        fits(JournalEdgesTest::full, "claim 0 0 9", 2);
        fits(JournalEdgesTest::full, "claim 0 0 13", 3);
        String eighty = "bind 0 100 0 0 100\nbind 0 100 0 0 100\n"
                + "change 0 0 2 200\nchange 0 0 2 100\n".repeat(19) + "count 3 = 80\n";
        sentences.holds("A call that throws changes nothing [claim]",
                PLAN + "quota 10\nterms 0 9999 100\n" + eighty + "claim 1 0 5\n".repeat(9) + """
                claim 0 0 9999 = UOE
                claim 0 0 9 = 9
                count 3 = 90
                """, PLAN + "quota 10\nlayer 50 10 1 10\n" + eighty + "claim 1 0 5\n".repeat(8) + """
                claim 0 0 70 = UOE
                claim 0 0 60 = 60
                settled 8 4 = 4
                settled 8 5 = 4
                count 3 = 90
                """, full(MOST - 2) + """
                claim 0 0 9999 = UOE
                count 2 = 15
                settled 15 0 = NSE
                claim 0 0 9 = 6
                settled 15 2 = 6
                settled 15 4 = 1
                settled 15 5 = 1
                """);
    }

    private static void atMostNinetyWithoutQuota() {
        fits(JournalEdgesTest::fullWithoutQuota, "bind 0 100 0 0 10", 1);
        fits(JournalEdgesTest::fullWithoutQuota, "change 1 0 2 300", 1);
        fits(JournalEdgesTest::fullWithoutQuota, "cancel 1 50 plain", 1);
        fits(JournalEdgesTest::fullWithoutQuota, "cancel 1 96 short", 1);
        fits(JournalEdgesTest::fullWithoutQuota, "cancel 1 95 short", 2);
        fits(JournalEdgesTest::fullWithoutQuota, "claim 1 0 9", 2);
    }

    private static void fullAndOtherwiseRefused() {
        sentences.holds("of several exceptions the first is thrown whose condition holds [with a full journal]",
                full(MOST) + """
                bind 1000 100 0 0 100 = IAE
                bind 0 201 0 0 100 = IAE
                bind 0 100 50 0 100 = IAE
                bind 0 100 0 10 100 = IAE
                bind 0 100 0 0 1000 = IAE
                bind 0 100 0 0 100 = UOE
                change 4 0 2 200 = NSE
                change 0 0 3 200 = NSE
                change 0 100 2 200 = IAE
                change 0 0 2 1000 = IAE
                change 1 50 2 300 = ISE
                change 0 0 2 200 = UOE
                cancel 4 0 short = NSE
                cancel 0 100 short = IAE
                cancel 1 50 short = ISE
                cancel 0 0 short = UOE
                reinstate 4 0 = NSE
                reinstate 1 100 = IAE
                reinstate 0 0 = ISE
                reinstate 1 50 = UOE
                claim 4 0 8 = NSE
                claim 0 1000 8 = IAE
                claim 0 0 10000 = IAE
                claim 0 100 8 = ISE
                claim 1 50 8 = ISE
                claim 0 0 8 = UOE
                row 0 0 0 0 1 = ISE
                undo = ISE
                quota 10 = ISE
                terms 3 9999 9999 = ISE
                layer 5 9999 3 99 = ISE
                """);
    }

    private static void fullAndFortyBookings() {
        sentences.holds("of several exceptions the first is thrown whose condition holds [full, 40 bookings]",
                PLAN + """
                quota 10
                bind 0 100 0 0 100
                bind 0 100 0 0 200
                cancel 1 50 plain
                """ + "change 0 0 2 200\nchange 0 0 2 100\n".repeat(18) + "change 0 0 2 200\n"
                + "claim 0 0 10\n".repeat(5) + """
                count 1 = 40
                count 3 = 90
                bind 0 100 0 0 100 = ISE
                bind 0 1 0 0 1 = ISE
                change 0 0 2 100 = ISE
                cancel 0 0 short = ISE
                reinstate 1 50 = ISE
                claim 0 0 10 = UOE
                """);
    }

    private static void fullAndTwentyClaims() {
        sentences.holds("of several exceptions the first is thrown whose condition holds [full, 20 claims]",
                PLAN + LAYER + """
                quota 10
                bind 0 100 0 0 100
                bind 0 100 0 0 200
                cancel 1 50 plain
                """ + "claim 0 0 13\n".repeat(20) + "change 0 0 2 200\nchange 0 0 2 100\n".repeat(6) + """
                count 2 = 20
                count 3 = 90
                claim 0 0 13 = ISE
                claim 1 50 13 = ISE
                claim 0 0 0 = IAE
                claim 2 0 13 = NSE
                change 0 0 2 200 = UOE
                """);
    }

    private static void fullAndSixPolicies() {
        sentences.holds("of several exceptions the first is thrown whose condition holds [full, 6 policies]",
                PLAN + LAYER
                + "quota 10\n" + "bind 0 100 0 0 100\n".repeat(6) + "claim 5 0 13\n".repeat(10)
                + "change 0 0 2 200\nchange 0 0 2 100\n".repeat(12) + """
                count 0 = 6
                count 3 = 90
                bind 0 100 0 0 100 = ISE
                bind 0 1 0 0 1 = ISE
                bind -1 1 0 0 1 = ISE
                change 5 0 2 200 = UOE
                """);
    }
}
