/** The boundary cases of promises 1 to 4: a new object, row, undo, witness. */
public final class PlanEdgesTest {
    private static final Sentences sentences = new Sentences();
    private static final String FLAT = "row 0 49 0 9 10\n";
    private static final String EIGHT = """
            row 0 5 0 9 10
            row 6 11 0 9 11
            row 12 17 0 9 12
            row 18 23 0 9 13
            row 24 29 0 9 14
            row 30 35 0 9 15
            row 36 41 0 9 16
            row 42 49 0 9 17
            """;
    /** All but ages 10 to 20 with zones 3 to 5. */
    private static final String AROUND = """
            row 0 9 0 9 1
            row 21 49 0 9 2
            row 10 20 0 2 3
            row 10 20 6 9 4
            """;

    public static void main(String[] args) {
        newObject();
        ages();
        zones();
        rates();
        fromAndTo();
        atMostEightRows();
        matches();
        good();
        closed();
        undo();
        witness();
        sentences.end();
    }

    private static void newObject() {
        sentences.holds("No rows, no policies, terms as told, an empty journal.", """
                witness = 0
                count 0 = 0
                count 1 = 0
                count 2 = 0
                count 3 = 0
                count 4 = 0
                balance 0 = 0
                balance 1 = 0
                balance 2 = 0
                balance 3 = 0
                balance 4 = 0
                balance 5 = 0
                balance 6 = 0
                undo = ISE
                bind 0 1 0 0 1 = ISE
                change 0 0 0 0 = NSE
                cancel 0 0 plain = NSE
                reinstate 0 0 = NSE
                claim 0 0 1 = NSE
                fact 0 0 0 0 = NSE
                written 0 0 = NSE
                earned 0 0 0 = NSE
                settled 0 0 = NSE
                posting 0 0 = NSE
                row 0 49 0 9 10 = 0
                bind 0 10 0 0 100 = 0
                count 3 = 1
                """);
    }

    private static void ages() {
        sentences.holds("AGES 0 .. 49", """
                row 0 49 0 9 1 = 0
                row 1 48 0 9 1 = 1
                row 0 0 0 9 1 = 2
                row 49 49 0 9 1 = 3
                row 48 49 0 9 1 = 4
                row 0 1 0 9 1 = 5
                row -1 49 0 9 1 = IAE
                row -1 -1 0 9 1 = IAE
                row -2 -1 0 9 1 = IAE
                row 0 50 0 9 1 = IAE
                row 50 50 0 9 1 = IAE
                row 50 51 0 9 1 = IAE
                row MIN 49 0 9 1 = IAE
                row 0 MAX 0 9 1 = IAE
                row MIN MAX 0 9 1 = IAE
                row MIN MIN 0 9 1 = IAE
                row MAX MAX 0 9 1 = IAE
                count 4 = 6
                """);
    }

    private static void zones() {
        sentences.holds("ZONES 0 .. 9", """
                row 0 49 0 9 1 = 0
                row 0 49 1 8 1 = 1
                row 0 49 0 0 1 = 2
                row 0 49 9 9 1 = 3
                row 0 49 8 9 1 = 4
                row 0 49 0 1 1 = 5
                row 0 49 -1 9 1 = IAE
                row 0 49 -1 -1 1 = IAE
                row 0 49 -2 -1 1 = IAE
                row 0 49 0 10 1 = IAE
                row 0 49 10 10 1 = IAE
                row 0 49 10 11 1 = IAE
                row 0 49 MIN 9 1 = IAE
                row 0 49 0 MAX 1 = IAE
                row 0 49 MIN MAX 1 = IAE
                row 0 49 MIN MIN 1 = IAE
                row 0 49 MAX MAX 1 = IAE
                count 4 = 6
                """);
    }

    private static void rates() {
        sentences.holds("and a RATE 1 .. 99", """
                row 0 49 0 9 0 = IAE
                row 0 49 0 9 -1 = IAE
                row 0 49 0 9 MIN = IAE
                row 0 49 0 9 100 = IAE
                row 0 49 0 9 101 = IAE
                row 0 49 0 9 MAX = IAE
                witness = 0
                row 0 10 0 9 1 = 0
                row 11 20 0 9 2 = 1
                row 21 30 0 9 98 = 2
                row 31 49 0 9 99 = 3
                bind 0 1 10 0 1
                bind 0 1 20 0 1
                bind 0 1 30 0 1
                bind 0 1 40 0 1
                fact 0 4 0 3 = 1
                fact 1 4 0 3 = 2
                fact 2 4 0 3 = 98
                fact 3 4 0 3 = 99
                """);
    }

    private static void fromAndTo() {
        sentences.holds("or a from is greater than its to", """
                row 10 9 0 9 1 = IAE
                row 49 0 0 9 1 = IAE
                row 1 0 0 9 1 = IAE
                row 49 48 0 9 1 = IAE
                row 10 10 0 9 1 = 0
                row 10 11 0 9 1 = 1
                row 0 49 5 4 1 = IAE
                row 0 49 9 0 1 = IAE
                row 0 49 1 0 1 = IAE
                row 0 49 9 8 1 = IAE
                row 0 49 5 5 1 = 2
                row 0 49 5 6 1 = 3
                row MAX MIN 5 6 1 = IAE
                row 0 49 MAX MIN 1 = IAE
                count 4 = 4
                """);
    }

    private static void atMostEightRows() {
        sentences.holds("THE PLAN has at most 8 ROWS", EIGHT + """
                count 4 = 8
                witness = -1
                row 0 0 0 0 1 = ISE
                row 0 49 0 9 99 = ISE
                undo
                count 4 = 7
                witness = 420
                row 42 49 0 9 18 = 7
                count 4 = 8
                row 0 0 0 0 1 = ISE
                bind 0 1 49 9 1
                fact 0 4 0 0 = 18
                """, "row 0 49 0 9 1\nundo\n".repeat(20) + EIGHT + """
                row 0 0 0 0 1 = ISE
                """);
        sentences.holds("Throws IllegalStateException when the plan is closed or has 8, then "
                + "IllegalArgumentException when a number is not as said, or a from is greater than its to.",
                EIGHT + """
                row -1 0 0 0 1 = ISE
                row 0 0 0 0 100 = ISE
                row 1 0 1 0 1 = ISE
                bind 0 10 0 0 100 = 0
                row 0 0 0 0 1 = ISE
                row 0 0 0 0 0 = ISE
                """, FLAT + """
                bind 0 10 0 0 100 = 0
                row -1 0 0 0 1 = ISE
                row 0 0 0 0 100 = ISE
                row 1 0 1 0 1 = ISE
                row 0 0 0 0 1 = ISE
                """, EIGHT.substring(EIGHT.indexOf('\n') + 1) + """
                row -1 0 0 0 1 = IAE
                row 0 0 0 0 100 = IAE
                row 1 0 1 0 1 = IAE
                row 0 5 0 9 1 = 7
                """);
    }

    private static void matches() {
        sentences.holds("A row MATCHES an age and a zone that lie in it.",
                AROUND + "row 10 20 3 5 7\nwitness = -1\n",
                AROUND + "row 9 20 3 5 7\nwitness = 93\n",
                AROUND + "row 11 20 3 5 7\nwitness = 103\n",
                AROUND + "row 10 19 3 5 7\nwitness = 203\n",
                AROUND + "row 10 21 3 5 7\nwitness = 213\n",
                AROUND + "row 10 20 2 5 7\nwitness = 102\n",
                AROUND + "row 10 20 4 5 7\nwitness = 103\n",
                AROUND + "row 10 20 3 4 7\nwitness = 105\n",
                AROUND + "row 10 20 3 6 7\nwitness = 106\n",
                AROUND + """
                row 10 20 3 5 7
                bind 0 4 10 3 1
                change 0 1 1 5
                change 0 2 0 20
                change 0 3 1 3
                fact 0 4 0 99 = 7
                fact 0 4 1 99 = 7
                fact 0 4 2 99 = 7
                fact 0 4 3 99 = 7
                bind 0 4 9 3 1
                change 1 1 0 21
                change 1 2 0 10
                change 1 2 1 2
                change 1 3 1 6
                fact 1 4 0 99 = 1
                fact 1 4 1 99 = 2
                fact 1 4 2 99 = 3
                fact 1 4 3 99 = 4
                """);
    }

    private static void good() {
        sentences.holds("The plan is GOOD if each age with each zone is matched by just one row.", """
                bind 0 1 0 0 1 = ISE
                row 0 49 0 8 1
                bind 0 1 0 0 1 = ISE
                row 0 48 9 9 1
                witness = 499
                bind 0 1 0 0 1 = ISE
                row 49 49 9 9 1
                witness = -1
                row 49 49 9 9 1
                witness = 499
                bind 0 1 0 0 1 = ISE
                row 49 49 9 9 1
                witness = 499
                bind 0 1 0 0 1 = ISE
                undo
                bind 0 1 0 0 1 = ISE
                undo
                bind 0 1 0 0 1 = 0
                """, """
                row 0 0 1 9 1
                row 1 49 0 9 1
                witness = 0
                bind 0 1 0 0 1 = ISE
                row 0 0 0 0 1
                witness = -1
                bind 0 1 0 0 1 = 0
                """);
    }

    private static void closed() {
        sentences.holds("It is CLOSED from the first policy on.", FLAT + """
                bind 0 1 0 0 1000 = IAE
                row 0 0 0 0 5 = 1
                undo
                bind 0 1 0 0 1 = 0
                count 3 = 0
                row 0 0 0 0 5 = ISE
                undo = ISE
                cancel 0 0 plain
                row 0 0 0 0 5 = ISE
                undo = ISE
                bind 0 1 0 0 1 = 1
                row 0 0 0 0 5 = ISE
                undo = ISE
                count 4 = 1
                witness = -1
                """, EIGHT + """
                bind 0 1 0 0 1
                undo = ISE
                count 4 = 8
                """, "row 0 49 0 4 1\nrow 0 49 5 9 2\n" + """
                bind 0 1 0 0 1
                row 0 0 0 0 5 = ISE
                undo = ISE
                count 4 = 2
                """);
    }

    private static void undo() {
        sentences.holds("Takes the latest row away. Throws IllegalStateException when the plan is closed or has none.",
                """
                undo = ISE
                row 0 49 0 4 1 = 0
                row 0 49 5 9 2 = 1
                witness = -1
                undo
                count 4 = 1
                witness = 5
                undo
                count 4 = 0
                witness = 0
                undo = ISE
                row 0 49 0 9 3 = 0
                bind 0 1 0 0 1
                fact 0 4 0 0 = 3
                undo = ISE
                """, EIGHT + "undo\n".repeat(8) + "count 4 = 0\nundo = ISE\n");
    }

    private static void witness() {
        sentences.holds("-1 when the plan is good; otherwise 10 * age + zone of the first (by age, then by zone) "
                + "that no row matches, or more than one.",
                "witness = 0\n",
                FLAT + "witness = -1\n",
                EIGHT + "witness = -1\n",
                FLAT + "row 0 0 0 0 1\nwitness = 0\n",
                FLAT + "row 49 49 9 9 1\nwitness = 499\n",
                FLAT + "row 49 49 8 8 1\nwitness = 498\n",
                FLAT + "row 0 0 9 9 1\nwitness = 9\nrow 1 1 0 0 1\nwitness = 9\n",
                FLAT + "row 1 1 0 0 1\nwitness = 10\nrow 0 0 9 9 1\nwitness = 9\n",
                FLAT + "row 7 7 3 3 1\nrow 7 7 3 3 1\nwitness = 73\n",
                "row 0 0 0 0 1\nwitness = 1\n",
                "row 0 0 0 9 1\nwitness = 10\n",
                "row 0 48 0 9 1\nwitness = 490\n",
                "row 0 49 1 9 1\nwitness = 0\n",
                "row 0 49 0 8 1\nwitness = 9\n",
                "row 0 2 0 9 1\nrow 3 3 0 8 1\nrow 4 49 1 9 1\nwitness = 39\nrow 2 2 9 9 1\nwitness = 29\n",
                "row 0 2 0 9 1\nrow 4 49 0 9 1\nrow 20 20 0 9 1\nwitness = 30\nrow 3 3 0 9 1\nwitness = 200\n");
    }
}
