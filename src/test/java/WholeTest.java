/** What the document says at its beginning of the whole, and of each call that it does, in ordinary runs. */
public final class WholeTest {
    private static final Sentences sentences = new Sentences();
    private static final String FLAT = "row 0 49 0 9 10\n";
    private static final String TOLD = FLAT + """
            bind 0 100 0 0 100 = 0
            change 0 80 2 800 = 1
            change 0 40 2 400 = 2
            change 0 60 2 600 = 3
            """;

    public static void main(String[] args) {
        plan();
        facts();
        premium();
        claims();
        reinsurance();
        accounts();
        numbers();
        sentences.end();
    }

    private static void plan() {
        sentences.holds("a plan of rates that must cover every risk just once", """
                row 0 49 0 4 10 = 0
                witness = 5
                bind 0 100 0 0 100 = ISE
                row 0 49 4 9 20 = 1
                witness = 4
                bind 0 100 0 0 100 = ISE
                undo
                row 0 49 5 9 20 = 1
                witness = -1
                bind 0 100 0 4 100 = 0
                bind 0 100 0 5 100 = 1
                written 0 1 = 100
                written 1 1 = 200
                """);
    }

    private static void facts() {
        sentences.holds("policies whose facts are told for days in any order", TOLD + """
                fact 0 2 0 3 = 100
                fact 0 2 39 3 = 100
                fact 0 2 40 3 = 400
                fact 0 2 59 3 = 400
                fact 0 2 60 3 = 600
                fact 0 2 79 3 = 600
                fact 0 2 80 3 = 800
                fact 0 2 99 3 = 800
                """);
        sentences.holds("and can be asked as of any booking", TOLD + """
                fact 0 2 70 3 = 600
                fact 0 2 70 2 = 400
                fact 0 2 70 1 = 100
                fact 0 2 70 0 = 100
                fact 0 2 70 -1 = -1
                fact 0 4 90 1 = 8000
                fact 0 4 90 0 = 1000
                cancel 0 50 plain = 4
                fact 0 3 50 4 = 0
                fact 0 3 50 3 = 1
                fact 0 4 50 4 = 0
                fact 0 4 50 3 = 4000
                """);
    }

    private static void premium() {
        sentences.holds("WRITTEN: the charges of all days of the term together, divided by 1000 and rounded down. "
                + "[(All as of a booking.)]", TOLD + """
                written 0 3 = 400
                written 0 2 = 360
                written 0 1 = 240
                written 0 0 = 100
                written 0 -1 = 0
                """);
        sentences.holds("premium that is earned day by day", TOLD + """
                earned 0 0 3 = 0
                earned 0 1 3 = 1
                earned 0 2 3 = 2
                earned 0 40 3 = 40
                earned 0 41 3 = 44
                earned 0 42 3 = 48
                earned 0 60 3 = 120
                earned 0 61 3 = 126
                earned 0 80 3 = 240
                earned 0 81 3 = 248
                earned 0 99 3 = 392
                earned 0 100 3 = 400
                earned 0 101 3 = 400
                earned 0 81 2 = 208
                earned 0 81 1 = 88
                earned 0 81 0 = 81
                earned 0 81 -1 = 0
                """);
    }

    private static void claims() {
        sentences.holds("claims within limits", TOLD + """
                terms 10 500 700
                claim 0 7 110 = 100
                claim 0 8 900 = 500
                claim 0 9 900 = 100
                claim 0 9 900 = 0
                settled 2 0 = 0
                settled 2 1 = 9
                settled 2 2 = 100
                count 2 = 4
                """);
    }

    private static void reinsurance() {
        sentences.holds("two kinds of reinsurance", FLAT + """
                quota 25
                layer 100 200 1 40
                bind 0 100 0 0 100 = 0
                balance 2 = 25
                balance 3 = -25
                claim 0 0 1000 = 1000
                settled 0 3 = 250
                settled 0 4 = 200
                settled 0 5 = 200
                balance 5 = -450
                balance 2 = 105
                balance 3 = 345
                """);
    }

    private static void accounts() {
        sentences.holds("ACCOUNTS: 0 PREMIUM, 1 HOLDERS, 2 CEDED, 3 REINSURERS, 4 CLAIMS, 5 RECOVERIES, 6 FEES.",
                FLAT + """
                quota 25
                layer 100 200 1 40
                bind 0 100 0 0 100
                posting 0 0 = 0
                posting 0 1 = 1
                posting 0 2 = 100
                posting 1 0 = 3
                posting 1 1 = 2
                posting 1 2 = 25
                cancel 0 50 short
                posting 2 0 = 1
                posting 2 1 = 0
                posting 2 2 = 50
                posting 3 0 = 2
                posting 3 1 = 3
                posting 3 2 = 13
                posting 4 0 = 6
                posting 4 1 = 1
                posting 4 2 = 5
                claim 0 49 1000
                posting 5 0 = 1
                posting 5 1 = 4
                posting 5 2 = 1000
                posting 6 0 = 5
                posting 6 1 = 3
                posting 6 2 = 450
                posting 7 0 = 3
                posting 7 1 = 2
                posting 7 2 = 80
                count 3 = 8
                balance 0 = -50
                balance 1 = -945
                balance 2 = 92
                balance 3 = 358
                balance 4 = 1000
                balance 5 = -450
                balance 6 = -5
                """);
    }

    /** A bind answers the policy's number, the other bookings their own: those of all policies count. */
    private static void numbers() {
        sentences.holds("BOOKINGS have numbers 0, 1, .., at most 40: of a policy [the booking's number]", FLAT + """
                bind 0 100 0 0 100 = 0
                bind 0 100 0 0 100 = 1
                change 0 0 2 100 = 2
                cancel 1 50 plain = 3
                bind 0 100 0 0 100 = 2
                reinstate 1 50 = 5
                cancel 2 50 short = 6
                count 0 = 3
                count 1 = 7
                count 4 = 1
                """);
    }
}
