/** The boundary cases of promises 8 to 11: bind, change, cancel, reinstate. */
public final class BookingEdgesTest {
    private static final Sentences sentences = new Sentences();
    private static final String PLAN = "row 0 24 0 9 10\nrow 25 49 0 9 20\n";
    /** A policy with the term 10 .. 109 and a charge of 1000 a day. */
    private static final String BOUND = PLAN + "bind 10 100 24 3 100\n";
    /** One more, that is not in force from day 60 on. */
    private static final String CANCELLED = BOUND + """
            bind 10 100 24 3 100
            cancel 1 60 plain
            """;
    /** Policy 0 is in force, policy 1 is not from day 60 on. */
    private static final String THIRTY_NINE = CANCELLED + "change 0 10 1 4\nchange 0 10 1 3\n".repeat(18);
    private static final String FORTY = THIRTY_NINE + "change 0 10 1 4\n";

    public static void main(String[] args) {
        startDays();
        lengths();
        terms();
        bindAges();
        bindZones();
        bindSums();
        atMostSixPolicies();
        atMostFortyBookings();
        bindRefused();
        changePolicies();
        changeFacts();
        changeDays();
        changeValues();
        changeInForce();
        changeRefused();
        cancelPolicies();
        cancelDays();
        cancelInForce();
        cancelRefused();
        reinstatePolicies();
        reinstateDays();
        reinstateInForce();
        reinstateRefused();
        sentences.end();
    }

    private static void startDays() {
        sentences.holds("DAYS are 0 .. 999", PLAN + """
                bind -1 1 0 0 1 = IAE
                bind -2 1 0 0 1 = IAE
                bind -1 200 0 0 1 = IAE
                bind MIN 1 0 0 1 = IAE
                bind MIN 200 0 0 1 = IAE
                bind 1000 1 0 0 1 = IAE
                bind 1001 1 0 0 1 = IAE
                bind MAX 1 0 0 1 = IAE
                bind MAX 200 0 0 1 = IAE
                bind 0 1 0 0 1 = 0
                fact 0 3 0 0 = 1
                fact 0 3 1 0 = -1
                bind 1 1 0 0 1 = 1
                fact 1 3 0 1 = -1
                fact 1 3 1 1 = 1
                fact 1 3 2 1 = -1
                bind 998 1 0 0 1 = 2
                fact 2 3 997 2 = -1
                fact 2 3 998 2 = 1
                fact 2 3 999 2 = -1
                bind 999 1 0 0 1 = 3
                fact 3 3 998 3 = -1
                fact 3 3 999 3 = 1
                fact 3 3 1000 3 = -1
                """);
    }

    private static void lengths() {
        sentences.holds("a LENGTH 1 .. 200", PLAN + """
                bind 0 0 0 0 1 = IAE
                bind 0 -1 0 0 1 = IAE
                bind 0 MIN 0 0 1 = IAE
                bind 0 201 0 0 1 = IAE
                bind 0 202 0 0 1 = IAE
                bind 900 201 0 0 1 = IAE
                bind 0 1000 0 0 1 = IAE
                bind 0 MAX 0 0 1 = IAE
                bind 999 MAX 0 0 1 = IAE
                bind 0 1 0 0 100 = 0
                written 0 0 = 1
                bind 0 2 0 0 100 = 1
                written 1 1 = 2
                bind 0 199 0 0 100 = 2
                written 2 2 = 199
                fact 2 3 198 2 = 1
                fact 2 3 199 2 = -1
                bind 0 200 0 0 100 = 3
                written 3 3 = 200
                fact 3 3 199 3 = 1
                fact 3 3 200 3 = -1
                """);
    }

    private static void terms() {
        sentences.holds("its TERM are the days from START on, so many, but not above 999", PLAN + """
                bind 799 200 0 0 100 = 0
                fact 0 2 798 0 = -1
                fact 0 2 799 0 = 100
                fact 0 2 998 0 = 100
                fact 0 2 999 0 = -1
                written 0 0 = 200
                bind 800 200 0 0 100 = 1
                fact 1 2 799 1 = -1
                fact 1 2 999 1 = 100
                fact 1 2 1000 1 = -1
                written 1 1 = 200
                bind 801 200 0 0 100 = 2
                fact 2 2 800 2 = -1
                fact 2 2 801 2 = 100
                fact 2 2 999 2 = 100
                fact 2 2 1000 2 = -1
                written 2 2 = 199
                bind 999 2 0 0 100 = 3
                fact 3 2 998 3 = -1
                fact 3 2 999 3 = 100
                fact 3 2 1000 3 = -1
                written 3 3 = 1
                bind 999 200 0 0 100 = 4
                fact 4 2 999 4 = 100
                fact 4 2 1000 4 = -1
                written 4 4 = 1
                earned 4 1000 4 = 1
                earned 4 1001 4 = 1
                """);
    }

    private static void bindAges() {
        sentences.holds("an AGE [of AGES 0 .. 49]", PLAN + """
                bind 0 1 -1 0 1 = IAE
                bind 0 1 -2 0 1 = IAE
                bind 0 1 MIN 0 1 = IAE
                bind 0 1 50 0 1 = IAE
                bind 0 1 51 0 1 = IAE
                bind 0 1 MAX 0 1 = IAE
                bind 0 1 0 0 1 = 0
                bind 0 1 1 0 1 = 1
                bind 0 1 48 0 1 = 2
                bind 0 1 49 0 1 = 3
                fact 0 0 0 3 = 0
                fact 1 0 0 3 = 1
                fact 2 0 0 3 = 48
                fact 3 0 0 3 = 49
                fact 0 4 0 3 = 10
                fact 3 4 0 3 = 20
                """);
    }

    private static void bindZones() {
        sentences.holds("a ZONE [of ZONES 0 .. 9]", "row 0 49 0 8 10\nrow 0 49 9 9 20\n" + """
                bind 0 1 0 -1 1 = IAE
                bind 0 1 0 -2 1 = IAE
                bind 0 1 0 MIN 1 = IAE
                bind 0 1 0 10 1 = IAE
                bind 0 1 0 11 1 = IAE
                bind 0 1 0 MAX 1 = IAE
                bind 0 1 0 0 1 = 0
                bind 0 1 0 1 1 = 1
                bind 0 1 0 8 1 = 2
                bind 0 1 0 9 1 = 3
                fact 0 1 0 3 = 0
                fact 1 1 0 3 = 1
                fact 2 1 0 3 = 8
                fact 3 1 0 3 = 9
                fact 0 4 0 3 = 10
                fact 2 4 0 3 = 10
                fact 3 4 0 3 = 20
                """);
    }

    private static void bindSums() {
        sentences.holds("a SUM 1 .. 999", PLAN + """
                bind 0 1 0 0 0 = IAE
                bind 0 1 0 0 -1 = IAE
                bind 0 1 0 0 MIN = IAE
                bind 0 1 0 0 1000 = IAE
                bind 0 1 0 0 1001 = IAE
                bind 0 1 0 0 MAX = IAE
                bind 0 1 0 0 1 = 0
                bind 0 1 0 0 2 = 1
                bind 0 1 0 0 998 = 2
                bind 0 1 0 0 999 = 3
                fact 0 2 0 3 = 1
                fact 1 2 0 3 = 2
                fact 2 2 0 3 = 998
                fact 3 2 0 3 = 999
                fact 3 4 0 3 = 9990
                """);
        sentences.holds("WRITTEN: the charges of all days of the term together [the greatest there can be]", """
                row 0 49 0 9 99
                quota 90
                bind 800 200 49 9 999 = 0
                written 0 0 = 19780
                posting 0 2 = 19780
                posting 1 2 = 17802
                bind 800 200 49 9 999
                bind 800 200 49 9 999
                bind 800 200 49 9 999
                bind 800 200 49 9 999
                bind 800 200 49 9 999
                balance 0 = -118680
                balance 1 = 118680
                balance 2 = 106812
                balance 3 = -106812
                """);
    }

    private static void atMostSixPolicies() {
        sentences.holds("POLICIES have numbers 0, 1, .., at most 6.", PLAN + """
                bind 0 100 0 0 100 = 0
                bind 0 100 0 0 100 = 1
                bind 0 100 0 0 100 = 2
                bind 0 100 0 0 100 = 3
                bind 0 100 0 0 100 = 4
                count 0 = 5
                fact 5 0 0 99 = NSE
                bind 0 100 0 0 100 = 5
                count 0 = 6
                fact 5 2 0 99 = 100
                bind 0 100 0 0 100 = ISE
                bind 0 1 0 0 1 = ISE
                count 0 = 6
                cancel 5 0 plain
                bind 0 100 0 0 100 = ISE
                fact 6 0 0 99 = NSE
                """);
    }

    private static void atMostFortyBookings() {
        sentences.holds("BOOKINGS have numbers 0, 1, .., at most 40",
                THIRTY_NINE.substring(0, THIRTY_NINE.lastIndexOf("change")) + """
                count 1 = 38
                change 0 10 2 101 = 38
                change 0 10 2 102 = 39
                change 0 10 2 103 = ISE
                """, FORTY + """
                count 1 = 40
                bind 0 10 0 0 100 = ISE
                change 0 10 2 200 = ISE
                change 0 10 1 3 = ISE
                cancel 0 10 plain = ISE
                cancel 0 10 short = ISE
                reinstate 1 60 = ISE
                claim 0 10 5 = 5
                written 0 40 = 100
                """);
        sentences.holds("or 40 bookings [bind]", THIRTY_NINE + """
                count 1 = 39
                bind 0 10 0 0 100 = 2
                count 1 = 40
                bind 0 10 0 0 100 = ISE
                """);
        sentences.holds("or there are 40 bookings [change]", THIRTY_NINE + """
                change 0 10 2 101 = 39
                count 1 = 40
                change 0 10 2 102 = ISE
                fact 0 2 10 99 = 101
                """);
        sentences.holds("or there are 40 bookings [cancel]", THIRTY_NINE + """
                cancel 0 50 short = 39
                count 1 = 40
                cancel 0 40 short = ISE
                fact 0 3 49 99 = 1
                """);
        sentences.holds("or there are 40 bookings [reinstate]", THIRTY_NINE + """
                reinstate 1 70 = 39
                count 1 = 40
                reinstate 1 60 = ISE
                fact 1 3 69 99 = 0
                """);
    }

    private static void bindRefused() {
        sentences.holds("Throws IllegalStateException when the plan is not good, there are 6 policies, or 40 bookings; "
                + "then IllegalArgumentException when a number is not as said.", """
                bind 0 1 0 0 1 = ISE
                bind -1 1 0 0 1 = ISE
                bind 0 0 0 0 1 = ISE
                bind 0 1 50 0 1 = ISE
                bind 0 1 0 10 1 = ISE
                bind 0 1 0 0 0 = ISE
                row 0 49 0 9 10
                bind -1 0 50 10 0 = IAE
                bind 0 1 0 0 1 = 0
                """, PLAN + "bind 0 100 0 0 100\n".repeat(6) + """
                bind -1 1 0 0 1 = ISE
                bind 0 201 0 0 1 = ISE
                bind 0 1 -1 0 1 = ISE
                bind 0 1 0 -1 1 = ISE
                bind 0 1 0 0 1000 = ISE
                """, PLAN + "bind 0 100 0 0 100\n".repeat(5) + """
                bind -1 1 0 0 1 = IAE
                bind 0 201 0 0 1 = IAE
                bind 0 100 0 0 100 = 5
                """, FORTY + """
                bind 1000 1 0 0 1 = ISE
                bind 0 0 0 0 1 = ISE
                bind 0 1 50 0 1 = ISE
                bind 0 1 0 10 1 = ISE
                bind 0 1 0 0 0 = ISE
                """, THIRTY_NINE + """
                bind 1000 1 0 0 1 = IAE
                bind 0 1 0 0 0 = IAE
                bind 0 1 0 0 1 = 2
                """, PLAN + "bind 0 100 0 0 100\n".repeat(6) + "change 5 0 1 1\n".repeat(34) + """
                count 1 = 40
                bind 0 1 0 0 1 = ISE
                bind 0 1 0 0 0 = ISE
                """);
    }

    private static void changePolicies() {
        sentences.holds("Throws NoSuchElementException when there is no such policy or fact [change]", PLAN + """
                change 0 10 0 0 = NSE
                bind 10 100 24 3 100
                change -1 10 2 5 = NSE
                change MIN 10 2 5 = NSE
                change 1 10 2 5 = NSE
                change 2 10 2 5 = NSE
                change 5 10 2 5 = NSE
                change 6 10 2 5 = NSE
                change 40 10 2 5 = NSE
                change MAX 10 2 5 = NSE
                change 0 10 2 5 = 1
                bind 10 100 24 3 100
                change 1 10 2 6 = 3
                change 2 10 2 7 = NSE
                fact 0 2 10 99 = 5
                fact 1 2 10 99 = 6
                """, PLAN + "bind 10 100 24 3 100\n".repeat(6) + """
                change 6 10 2 5 = NSE
                change 5 10 2 5 = 6
                change 4 10 2 5 = 7
                """);
    }

    private static void changeFacts() {
        sentences.holds("Throws NoSuchElementException when there is no such policy or fact [change]", BOUND + """
                change 0 10 -1 1 = NSE
                change 0 10 -2 1 = NSE
                change 0 10 MIN 1 = NSE
                change 0 10 3 1 = NSE
                change 0 10 3 0 = NSE
                change 0 10 4 1 = NSE
                change 0 10 MAX 1 = NSE
                change 0 10 0 1 = 1
                change 0 10 1 1 = 2
                change 0 10 2 1 = 3
                fact 0 3 10 99 = 1
                """);
    }

    private static void changeDays() {
        sentences.holds("IllegalArgumentException when the day is not in its term [change]", BOUND + """
                change 0 9 2 5 = IAE
                change 0 8 2 5 = IAE
                change 0 0 2 5 = IAE
                change 0 -1 2 5 = IAE
                change 0 MIN 2 5 = IAE
                change 0 110 2 5 = IAE
                change 0 111 2 5 = IAE
                change 0 999 2 5 = IAE
                change 0 1000 2 5 = IAE
                change 0 MAX 2 5 = IAE
                change 0 109 2 104 = 1
                change 0 108 2 103 = 2
                change 0 11 2 102 = 3
                change 0 10 2 101 = 4
                fact 0 2 10 4 = 101
                fact 0 2 11 4 = 102
                fact 0 2 107 4 = 102
                fact 0 2 108 4 = 103
                fact 0 2 109 4 = 104
                """, PLAN + """
                bind 950 200 0 0 100
                change 0 949 2 5 = IAE
                change 0 1000 2 5 = IAE
                change 0 1001 2 5 = IAE
                change 0 999 2 6 = 1
                fact 0 2 998 1 = 100
                fact 0 2 999 1 = 6
                """);
    }

    private static void changeValues() {
        sentences.holds("or the value not as said [change]", BOUND + """
                change 0 10 0 -1 = IAE
                change 0 10 0 MIN = IAE
                change 0 10 0 50 = IAE
                change 0 10 0 MAX = IAE
                change 0 10 0 0 = 1
                fact 0 0 10 99 = 0
                change 0 10 0 1 = 2
                change 0 10 0 48 = 3
                change 0 10 0 49 = 4
                fact 0 0 10 99 = 49
                """, BOUND + """
                change 0 10 1 -1 = IAE
                change 0 10 1 MIN = IAE
                change 0 10 1 10 = IAE
                change 0 10 1 MAX = IAE
                change 0 10 1 0 = 1
                fact 0 1 10 99 = 0
                change 0 10 1 1 = 2
                change 0 10 1 8 = 3
                change 0 10 1 9 = 4
                fact 0 1 10 99 = 9
                """, BOUND + """
                change 0 10 2 0 = IAE
                change 0 10 2 -1 = IAE
                change 0 10 2 MIN = IAE
                change 0 10 2 1000 = IAE
                change 0 10 2 MAX = IAE
                change 0 10 2 1 = 1
                fact 0 2 10 99 = 1
                change 0 10 2 2 = 2
                change 0 10 2 998 = 3
                change 0 10 2 999 = 4
                fact 0 2 10 99 = 999
                """);
    }

    private static void changeInForce() {
        sentences.holds("IllegalStateException when it is not in force on that day as of now [change]", BOUND + """
                cancel 0 60 plain
                reinstate 0 80
                change 0 60 2 5 = ISE
                change 0 61 2 5 = ISE
                change 0 79 2 5 = ISE
                change 0 59 2 101 = 3
                change 0 80 2 102 = 4
                change 0 109 2 103 = 5
                reinstate 0 60
                change 0 60 2 104 = 7
                """, BOUND + """
                bind 10 100 24 3 100
                cancel 0 10 plain
                change 0 10 2 5 = ISE
                change 0 109 2 5 = ISE
                change 1 10 2 5 = 3
                """);
    }

    private static void changeRefused() {
        sentences.holds("of several exceptions the first is thrown whose condition holds [change]", CANCELLED + """
                change 2 9 0 0 = NSE
                change 2 60 2 0 = NSE
                change 1 110 3 0 = NSE
                change 1 60 3 0 = NSE
                change 1 110 2 100 = IAE
                change 1 60 2 1000 = IAE
                change 1 60 0 50 = IAE
                change 1 60 1 10 = IAE
                change 1 60 2 100 = ISE
                change 1 59 2 101 = 3
                """, FORTY + """
                change 2 10 2 100 = NSE
                change 0 10 3 100 = NSE
                change 0 9 2 100 = IAE
                change 0 10 2 0 = IAE
                change 1 60 2 0 = IAE
                change 1 60 2 100 = ISE
                change 0 10 2 100 = ISE
                """);
    }

    private static void cancelPolicies() {
        sentences.holds("Throws NoSuchElementException when there is no such policy [cancel]", PLAN + """
                cancel 0 10 plain = NSE
                bind 10 100 24 3 100
                cancel -1 10 short = NSE
                cancel MIN 10 short = NSE
                cancel 1 10 short = NSE
                cancel 2 10 short = NSE
                cancel 6 10 short = NSE
                cancel MAX 10 short = NSE
                cancel 0 10 short = 1
                fact 0 3 10 99 = 0
                """, PLAN + "bind 10 100 24 3 100\n".repeat(6) + """
                cancel 6 10 plain = NSE
                cancel 5 10 plain = 6
                cancel 4 10 plain = 7
                """);
    }

    private static void cancelDays() {
        sentences.holds("IllegalArgumentException when the day is not in its term [cancel]", BOUND + """
                cancel 0 9 plain = IAE
                cancel 0 8 short = IAE
                cancel 0 -1 short = IAE
                cancel 0 MIN short = IAE
                cancel 0 110 plain = IAE
                cancel 0 111 short = IAE
                cancel 0 999 short = IAE
                cancel 0 1000 short = IAE
                cancel 0 MAX short = IAE
                cancel 0 109 plain = 1
                fact 0 3 108 1 = 1
                fact 0 3 109 1 = 0
                cancel 0 108 plain = 2
                fact 0 3 107 2 = 1
                fact 0 3 108 2 = 0
                cancel 0 11 plain = 3
                fact 0 3 10 3 = 1
                fact 0 3 11 3 = 0
                cancel 0 10 plain = 4
                fact 0 3 10 4 = 0
                written 0 4 = 0
                """, PLAN + """
                bind 950 200 0 0 100
                cancel 0 949 plain = IAE
                cancel 0 1000 plain = IAE
                cancel 0 999 plain = 1
                written 0 1 = 49
                """);
    }

    private static void cancelInForce() {
        sentences.holds("IllegalStateException when it is not in force on that day as of now [cancel]", BOUND + """
                cancel 0 60 plain
                reinstate 0 80
                cancel 0 60 plain = ISE
                cancel 0 61 short = ISE
                cancel 0 79 plain = ISE
                cancel 0 80 plain = 3
                cancel 0 80 plain = ISE
                cancel 0 59 plain = 4
                cancel 0 109 plain = ISE
                written 0 4 = 49
                """);
    }

    private static void cancelRefused() {
        sentences.holds("of several exceptions the first is thrown whose condition holds [cancel]", CANCELLED + """
                cancel 2 9 plain = NSE
                cancel -1 60 plain = NSE
                cancel 1 110 plain = IAE
                cancel 1 9 short = IAE
                cancel 1 60 plain = ISE
                cancel 1 59 plain = 3
                """, FORTY + """
                cancel 2 10 plain = NSE
                cancel 2 9 plain = NSE
                cancel 0 9 plain = IAE
                cancel 1 110 plain = IAE
                cancel 1 60 plain = ISE
                cancel 0 10 plain = ISE
                """);
    }

    private static void reinstatePolicies() {
        sentences.holds("Throws NoSuchElementException when there is no such policy [reinstate]", PLAN + """
                reinstate 0 10 = NSE
                bind 10 100 24 3 100
                cancel 0 10 plain
                reinstate -1 10 = NSE
                reinstate MIN 10 = NSE
                reinstate 1 10 = NSE
                reinstate 2 10 = NSE
                reinstate 6 10 = NSE
                reinstate MAX 10 = NSE
                reinstate 0 10 = 2
                fact 0 3 10 99 = 1
                """, PLAN + "bind 10 100 24 3 100\n".repeat(6) + """
                cancel 5 10 plain
                cancel 4 10 plain
                reinstate 6 10 = NSE
                reinstate 5 10 = 8
                reinstate 4 10 = 9
                """);
    }

    private static void reinstateDays() {
        sentences.holds("IllegalArgumentException when the day is not in its term [reinstate]", BOUND + """
                cancel 0 10 plain
                reinstate 0 9 = IAE
                reinstate 0 8 = IAE
                reinstate 0 -1 = IAE
                reinstate 0 MIN = IAE
                reinstate 0 110 = IAE
                reinstate 0 111 = IAE
                reinstate 0 999 = IAE
                reinstate 0 1000 = IAE
                reinstate 0 MAX = IAE
                reinstate 0 109 = 2
                written 0 2 = 1
                reinstate 0 108 = 3
                written 0 3 = 2
                reinstate 0 11 = 4
                written 0 4 = 99
                reinstate 0 10 = 5
                written 0 5 = 100
                """, PLAN + """
                bind 950 200 0 0 100
                cancel 0 950 plain
                reinstate 0 949 = IAE
                reinstate 0 1000 = IAE
                reinstate 0 999 = 2
                written 0 2 = 1
                """);
    }

    private static void reinstateInForce() {
        sentences.holds("IllegalStateException when it is in force on that day as of now [reinstate]", BOUND + """
                reinstate 0 10 = ISE
                reinstate 0 109 = ISE
                cancel 0 60 plain
                reinstate 0 59 = ISE
                reinstate 0 61 = 2
                reinstate 0 61 = ISE
                reinstate 0 62 = ISE
                reinstate 0 109 = ISE
                reinstate 0 60 = 3
                reinstate 0 60 = ISE
                cancel 0 60 plain = 4
                reinstate 0 60 = 5
                written 0 5 = 100
                """);
    }

    private static void reinstateRefused() {
        sentences.holds("of several exceptions the first is thrown whose condition holds [reinstate]", CANCELLED + """
                reinstate 2 9 = NSE
                reinstate -1 10 = NSE
                reinstate 0 9 = IAE
                reinstate 0 110 = IAE
                reinstate 0 10 = ISE
                reinstate 1 60 = 3
                """, FORTY + """
                reinstate 2 60 = NSE
                reinstate 2 9 = NSE
                reinstate 1 9 = IAE
                reinstate 0 110 = IAE
                reinstate 0 10 = ISE
                reinstate 1 60 = ISE
                """);
    }
}
