/** The boundary cases of promises 13 to 16: count, fact, written, earned. */
public final class AskingEdgesTest {
    private static final Sentences sentences = new Sentences();
    private static final String PLAN = "row 0 24 0 9 10\nrow 25 49 0 9 20\n";
    /** A policy with the term 10 .. 109 and a charge of 1000 a day. */
    private static final String BOUND = PLAN + "bind 10 100 24 3 100\n";

    public static void main(String[] args) {
        asOf();
        asOfBeforeItIsBound();
        dayOfAValue();
        latestDay();
        latestBookingOfTheDay();
        valueOfThisFactAndPolicy();
        inForceOnADay();
        inForceByTheLatestDay();
        inForceByTheLatestBooking();
        otherDays();
        cancelledPolicyHasFacts();
        charge();
        written();
        writtenRefused();
        earnedUpToADay();
        earnedIsRoundedDown();
        earnedRefused();
        count();
        factRefused();
        sentences.end();
    }

    private static void asOf() {
        sentences.holds("AS OF a booking b (of a number below 0: of none) only bookings 0 .. b count.", BOUND + """
                change 0 10 2 200
                change 0 10 2 300
                cancel 0 10 plain
                fact 0 2 10 MIN = -1
                fact 0 2 10 -2 = -1
                fact 0 2 10 -1 = -1
                fact 0 2 10 0 = 100
                fact 0 2 10 1 = 200
                fact 0 2 10 2 = 300
                fact 0 3 10 2 = 1
                fact 0 4 10 2 = 3000
                fact 0 3 10 3 = 0
                fact 0 4 10 3 = 0
                fact 0 3 10 4 = 0
                fact 0 3 10 40 = 0
                fact 0 3 10 MAX = 0
                written 0 MIN = 0
                written 0 -2 = 0
                written 0 -1 = 0
                written 0 0 = 100
                written 0 1 = 200
                written 0 2 = 300
                written 0 3 = 0
                written 0 4 = 0
                written 0 MAX = 0
                earned 0 60 MIN = 0
                earned 0 60 -2 = 0
                earned 0 60 -1 = 0
                earned 0 60 0 = 50
                earned 0 60 1 = 100
                earned 0 60 2 = 150
                earned 0 60 3 = 0
                earned 0 60 4 = 0
                earned 0 60 MAX = 0
                """, BOUND + "change 0 10 2 200\n" + """
                written 0 1 = 200
                written 0 2 = 200
                written 0 40 = 200
                written 0 41 = 200
                written 0 MAX = 200
                fact 0 2 10 2 = 200
                fact 0 2 10 MAX = 200
                earned 0 60 2 = 100
                earned 0 60 MAX = 100
                """);
    }

    private static void asOfBeforeItIsBound() {
        sentences.holds("-1 when the day is not in its term, or it is not bound as of b [fact]", BOUND + """
                change 0 10 2 200
                bind 10 100 25 4 300
                fact 1 0 10 -1 = -1
                fact 1 0 10 0 = -1
                fact 1 0 10 1 = -1
                fact 1 1 10 1 = -1
                fact 1 2 10 1 = -1
                fact 1 3 10 1 = -1
                fact 1 4 10 1 = -1
                fact 1 0 10 2 = 25
                fact 1 1 10 2 = 4
                fact 1 2 10 2 = 300
                fact 1 3 10 2 = 1
                fact 1 4 10 2 = 6000
                fact 1 2 10 3 = 300
                written 1 -1 = 0
                written 1 1 = 0
                written 1 2 = 600
                earned 1 110 1 = 0
                earned 1 110 2 = 600
                fact 0 3 10 -1 = -1
                fact 0 3 10 0 = 1
                """);
    }

    private static void dayOfAValue() {
        sentences.holds("of its bookings that tell this fact from that day or an earlier one on", BOUND + """
                change 0 50 0 25
                change 0 60 1 4
                change 0 70 2 200
                fact 0 0 10 3 = 24
                fact 0 0 49 3 = 24
                fact 0 0 50 3 = 25
                fact 0 0 51 3 = 25
                fact 0 0 109 3 = 25
                fact 0 1 59 3 = 3
                fact 0 1 60 3 = 4
                fact 0 1 109 3 = 4
                fact 0 2 69 3 = 100
                fact 0 2 70 3 = 200
                fact 0 2 109 3 = 200
                """, BOUND + """
                change 0 10 2 200
                fact 0 2 10 1 = 200
                fact 0 2 109 1 = 200
                """, BOUND + """
                change 0 109 2 200
                fact 0 2 108 1 = 100
                fact 0 2 109 1 = 200
                """);
    }

    private static void latestDay() {
        sentences.holds("the one with the latest day", BOUND + """
                change 0 50 2 500
                change 0 49 2 490
                change 0 51 2 510
                change 0 30 2 300
                change 0 10 2 101
                fact 0 2 10 5 = 101
                fact 0 2 29 5 = 101
                fact 0 2 30 5 = 300
                fact 0 2 48 5 = 300
                fact 0 2 49 5 = 490
                fact 0 2 50 5 = 500
                fact 0 2 51 5 = 510
                fact 0 2 109 5 = 510
                fact 0 2 51 2 = 500
                """);
    }

    private static void latestBookingOfTheDay() {
        sentences.holds("and of these the latest booking", BOUND + """
                change 0 50 2 500
                change 0 50 2 499
                fact 0 2 50 1 = 500
                fact 0 2 50 2 = 499
                change 0 40 2 400
                change 0 50 2 501
                fact 0 2 50 3 = 499
                fact 0 2 50 4 = 501
                change 0 10 2 99
                fact 0 2 10 0 = 100
                fact 0 2 10 5 = 99
                fact 0 2 39 5 = 99
                change 0 10 2 100
                fact 0 2 10 6 = 100
                """);
    }

    private static void valueOfThisFactAndPolicy() {
        sentences.holds("of its bookings that tell this fact", BOUND + """
                bind 20 100 7 8 9
                change 1 50 0 1
                change 1 50 1 2
                change 1 50 2 3
                cancel 1 60 plain
                fact 0 0 109 99 = 24
                fact 0 1 109 99 = 3
                fact 0 2 109 99 = 100
                fact 0 3 109 99 = 1
                fact 1 0 50 99 = 1
                fact 1 1 50 99 = 2
                fact 1 2 50 99 = 3
                fact 1 0 49 99 = 7
                fact 1 1 49 99 = 8
                fact 1 2 49 99 = 9
                fact 1 3 60 99 = 0
                fact 1 0 19 99 = -1
                fact 1 0 20 99 = 7
                fact 0 0 10 99 = 24
                """);
    }

    private static void inForceOnADay() {
        sentences.holds("It is IN FORCE on a day of its term, unless, of its CANCELs and REINSTATEs "
                + "from that day or an earlier one on", BOUND + """
                fact 0 3 10 0 = 1
                fact 0 3 109 0 = 1
                cancel 0 60 plain
                reinstate 0 80
                fact 0 3 59 2 = 1
                fact 0 3 60 2 = 0
                fact 0 3 61 2 = 0
                fact 0 3 79 2 = 0
                fact 0 3 80 2 = 1
                fact 0 3 109 2 = 1
                fact 0 3 80 1 = 0
                fact 0 3 109 1 = 0
                fact 0 3 60 0 = 1
                """);
    }

    private static void inForceByTheLatestDay() {
        sentences.holds("the one with the latest day [IN FORCE]", BOUND + """
                cancel 0 60 plain
                reinstate 0 80
                cancel 0 40 plain
                reinstate 0 50
                fact 0 3 39 4 = 1
                fact 0 3 40 4 = 0
                fact 0 3 49 4 = 0
                fact 0 3 50 4 = 1
                fact 0 3 59 4 = 1
                fact 0 3 60 4 = 0
                fact 0 3 79 4 = 0
                fact 0 3 80 4 = 1
                fact 0 3 50 3 = 0
                fact 0 3 80 3 = 1
                written 0 4 = 70
                """);
    }

    private static void inForceByTheLatestBooking() {
        sentences.holds("and of these the latest booking, is a CANCEL [IN FORCE]", BOUND + """
                cancel 0 60 plain
                reinstate 0 60
                fact 0 3 60 1 = 0
                fact 0 3 60 2 = 1
                fact 0 3 109 2 = 1
                cancel 0 60 plain
                fact 0 3 60 3 = 0
                fact 0 3 109 3 = 0
                reinstate 0 60
                fact 0 3 60 4 = 1
                cancel 0 10 plain
                fact 0 3 10 5 = 0
                fact 0 3 59 5 = 0
                fact 0 3 60 5 = 1
                reinstate 0 10
                fact 0 3 10 6 = 1
                """);
    }

    private static void otherDays() {
        String days = "";
        for (int day : new int[] {Integer.MIN_VALUE, -1, 0, 8, 9, 110, 111, 999, 1000, Integer.MAX_VALUE}) {
            for (int fact = 0; fact <= 4; fact++) {
                days += "fact 0 " + fact + " " + day + " 0 = -1\n";
            }
        }
        sentences.holds("(On other days, and before it is bound, it is not, and has no facts.)", BOUND + days + """
                fact 0 0 10 0 = 24
                fact 0 0 11 0 = 24
                fact 0 0 108 0 = 24
                fact 0 0 109 0 = 24
                fact 0 3 10 0 = 1
                fact 0 3 109 0 = 1
                """, PLAN + """
                bind 0 1 24 3 100
                bind 999 1 24 3 100
                fact 0 0 -1 1 = -1
                fact 0 0 0 1 = 24
                fact 0 0 1 1 = -1
                fact 1 0 998 1 = -1
                fact 1 0 999 1 = 24
                fact 1 0 1000 1 = -1
                """);
    }

    private static void cancelledPolicyHasFacts() {
        sentences.holds("A policy that is bound HAS on a day of its term, for each fact, the value that counts",
                BOUND + """
                cancel 0 60 plain
                fact 0 0 60 1 = 24
                fact 0 1 60 1 = 3
                fact 0 2 60 1 = 100
                fact 0 3 60 1 = 0
                fact 0 4 60 1 = 0
                fact 0 0 109 1 = 24
                fact 0 2 110 1 = -1
                """);
    }

    private static void charge() {
        sentences.holds("The CHARGE of a day: 0, if the policy is not in force; otherwise SUM times the rate "
                + "of AGE and ZONE.",
                BOUND + """
                change 0 50 0 25
                change 0 70 2 999
                change 0 75 2 1
                cancel 0 80 plain
                reinstate 0 90
                fact 0 4 9 5 = -1
                fact 0 4 10 5 = 1000
                fact 0 4 49 5 = 1000
                fact 0 4 50 5 = 2000
                fact 0 4 69 5 = 2000
                fact 0 4 70 5 = 19980
                fact 0 4 74 5 = 19980
                fact 0 4 75 5 = 20
                fact 0 4 79 5 = 20
                fact 0 4 80 5 = 0
                fact 0 4 89 5 = 0
                fact 0 4 90 5 = 20
                fact 0 4 109 5 = 20
                fact 0 4 110 5 = -1
                """, "row 0 49 0 9 99\nbind 0 1 0 0 999\nfact 0 4 0 0 = 98901\n",
                "row 0 49 0 9 1\nbind 0 1 0 0 1\nfact 0 4 0 0 = 1\n");
    }

    private static void written() {
        sentences.holds("WRITTEN: the charges of all days of the term together, divided by 1000 and rounded down.", """
                row 0 49 0 9 1
                bind 0 1 0 0 998
                written 0 0 = 0
                bind 0 1 0 0 999
                written 1 1 = 0
                count 3 = 0
                bind 0 2 0 0 500
                written 2 2 = 1
                bind 0 7 0 0 143
                written 3 3 = 1
                bind 0 3 0 0 666
                written 4 4 = 1
                change 4 2 2 667
                written 4 5 = 1
                change 4 2 2 668
                written 4 6 = 2
                change 4 2 2 669
                written 4 7 = 2
                change 4 2 2 667
                written 4 8 = 1
                cancel 4 0 plain
                written 4 9 = 0
                """, BOUND + """
                cancel 0 109 plain
                written 0 1 = 99
                cancel 0 10 plain
                written 0 2 = 0
                """);
    }

    private static void writtenRefused() {
        sentences.holds("WRITTEN as of booking b. Throws NoSuchElementException when there is no such policy.",
                PLAN + """
                written 0 0 = NSE
                written 0 -1 = NSE
                bind 10 100 24 3 100
                written -1 0 = NSE
                written -1 -1 = NSE
                written MIN 0 = NSE
                written 1 0 = NSE
                written 1 -1 = NSE
                written 2 0 = NSE
                written 6 0 = NSE
                written MAX 0 = NSE
                written 0 0 = 100
                """, PLAN + "bind 10 100 24 3 100\n".repeat(6) + """
                written 4 5 = 100
                written 5 5 = 100
                written 6 5 = NSE
                """);
    }

    private static void earnedUpToADay() {
        sentences.holds("EARNED up to a day as of booking b (days before the term earn nothing, those behind "
                + "it nothing more).",
                BOUND + """
                earned 0 MIN 0 = 0
                earned 0 -1 0 = 0
                earned 0 0 0 = 0
                earned 0 9 0 = 0
                earned 0 10 0 = 0
                earned 0 11 0 = 1
                earned 0 12 0 = 2
                earned 0 108 0 = 98
                earned 0 109 0 = 99
                earned 0 110 0 = 100
                earned 0 111 0 = 100
                earned 0 999 0 = 100
                earned 0 1000 0 = 100
                earned 0 MAX 0 = 100
                cancel 0 60 plain
                reinstate 0 80
                earned 0 59 2 = 49
                earned 0 60 2 = 50
                earned 0 61 2 = 50
                earned 0 80 2 = 50
                earned 0 81 2 = 51
                earned 0 110 2 = 80
                """, PLAN + """
                bind 990 200 24 3 100
                earned 0 990 0 = 0
                earned 0 998 0 = 8
                earned 0 999 0 = 9
                earned 0 1000 0 = 10
                earned 0 1001 0 = 10
                earned 0 1190 0 = 10
                """);
    }

    private static void earnedIsRoundedDown() {
        sentences.holds("EARNED up to a day: the charges of all days before it, divided by 1000 and rounded down.", """
                row 0 49 0 9 1
                bind 0 9 0 0 333
                earned 0 3 0 = 0
                earned 0 4 0 = 1
                earned 0 6 0 = 1
                earned 0 7 0 = 2
                bind 0 4 0 0 500
                earned 1 1 1 = 0
                earned 1 2 1 = 1
                earned 1 3 1 = 1
                earned 1 4 1 = 2
                change 1 1 2 499
                earned 1 2 2 = 0
                earned 1 3 2 = 1
                earned 1 4 2 = 1
                bind 0 3 0 0 501
                earned 2 2 3 = 1
                """);
    }

    private static void earnedRefused() {
        sentences.holds("Throws NoSuchElementException when there is no such policy [earned]", PLAN + """
                earned 0 0 0 = NSE
                earned 0 -1 -1 = NSE
                bind 10 100 24 3 100
                earned -1 50 0 = NSE
                earned -1 0 -1 = NSE
                earned MIN 50 0 = NSE
                earned 1 50 0 = NSE
                earned 1 1000 -1 = NSE
                earned 2 50 0 = NSE
                earned 6 50 0 = NSE
                earned MAX 50 0 = NSE
                earned 0 50 0 = 40
                """, PLAN + "bind 10 100 24 3 100\n".repeat(6) + """
                earned 4 50 5 = 40
                earned 5 50 5 = 40
                earned 6 50 5 = NSE
                """);
    }

    private static void count() {
        sentences.holds("How many there are: 0 policies, 1 bookings, 2 claims, 3 postings, 4 rows; -1 for "
                + "another what.",
                "quota 50\n" + PLAN + """
                count 4 = 2
                bind 10 100 24 3 100
                bind 10 100 24 3 100
                bind 10 100 24 3 100
                change 0 10 1 1
                claim 0 10 2
                count MIN = -1
                count -2 = -1
                count -1 = -1
                count 0 = 3
                count 1 = 4
                count 2 = 1
                count 3 = 8
                count 4 = 2
                count 5 = -1
                count 6 = -1
                count MAX = -1
                """, "count -1 = -1\ncount 0 = 0\ncount 4 = 0\ncount 5 = -1\n");
    }

    private static void factRefused() {
        sentences.holds("Throws NoSuchElementException when there is no such policy or fact [fact]", PLAN + """
                fact 0 0 10 0 = NSE
                fact 0 0 -1 -1 = NSE
                bind 10 100 24 3 100
                fact -1 0 10 0 = NSE
                fact MIN 0 10 0 = NSE
                fact 1 0 10 0 = NSE
                fact 1 0 9 0 = NSE
                fact 1 0 10 -1 = NSE
                fact 2 0 10 0 = NSE
                fact 6 0 10 0 = NSE
                fact MAX 0 10 0 = NSE
                fact 0 -1 10 0 = NSE
                fact 0 -2 10 0 = NSE
                fact 0 MIN 10 0 = NSE
                fact 0 5 10 0 = NSE
                fact 0 6 10 0 = NSE
                fact 0 MAX 10 0 = NSE
                fact 0 5 9 0 = NSE
                fact 0 -1 110 0 = NSE
                fact 0 5 10 -1 = NSE
                fact 1 5 9 -1 = NSE
                fact 0 0 10 0 = 24
                fact 0 1 10 0 = 3
                fact 0 2 10 0 = 100
                fact 0 3 10 0 = 1
                fact 0 4 10 0 = 1000
                """, PLAN + "bind 10 100 24 3 100\n".repeat(6) + """
                fact 4 0 10 5 = 24
                fact 5 0 10 5 = 24
                fact 6 0 10 5 = NSE
                """);
    }
}
