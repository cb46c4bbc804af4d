import java.util.List;

/** "An object is used for at most 512 calls after it has been made": up to the last of them it answers as due. */
public final class CallsTest {
    private static final int CALLS = 512;
    private static final Check check = new Check();

    private CarrierBooks books = new CarrierBooks();
    private int calls;

    public static void main(String[] args) {
        bookingUpToTheLastCall();
        askingUpToTheLastCall();
        refusedUpToTheLastCall();
        rowsUpToTheLastCall();
        refusedPostingsUpToTheLastCall();
        check.end();
    }

    private void play(String lines) {
        for (Call call : Call.all(lines)) {
            call.answerOf(books);
            calls++;
        }
    }

    /** Repeats calls until so many are left. */
    private void playUntilLeft(String lines, int left) {
        List<Call> repeated = Call.all(lines);
        for (int k = 0; calls < CALLS - left; k++) {
            repeated.get(k % repeated.size()).answerOf(books);
            calls++;
        }
    }

    private void due(String line, String answer) {
        Call call = Call.of(line);
        calls++;
        check.same("call " + calls + ": " + call, answer, call.answerOf(books));
    }

    private void used() {
        check.same("calls of the object", String.valueOf(CALLS), String.valueOf(calls));
    }

    private static void bookingUpToTheLastCall() {
        CallsTest test = new CallsTest();
        test.play("row 0 49 0 9 10\nquota 10\nbind 0 100 0 0 100");
        test.playUntilLeft("written 0 0\nfact 0 4 50 0\nearned 0 50 0\nposting 0 2\nbalance 0", 5);
        test.due("change 0 0 2 200", "1");
        test.due("bind 0 100 0 0 300", "1");
        test.due("cancel 0 50 short", "3");
        test.due("claim 1 0 1000", "1000");
        test.due("balance 1", "-590");
        test.used();
    }

    private static void askingUpToTheLastCall() {
        CallsTest test = new CallsTest();
        test.play("row 0 49 0 9 10\nquota 10\nbind 0 100 0 0 100");
        test.play("change 0 0 2 200\nchange 0 0 2 100\n".repeat(19) + "change 0 0 2 200");
        test.play("claim 0 0 10\n".repeat(5));
        test.playUntilLeft("written 0 39\nfact 0 2 50 20\nearned 0 99 38\nsettled 4 2\nposting 89 2\nwitness", 7);
        test.due("count 1", "40");
        test.due("count 3", "90");
        test.due("written 0 38", "100");
        test.due("posting 89 2", "1");
        test.due("settled 4 2", "10");
        test.due("change 0 0 2 100", "ISE");
        test.due("claim 0 0 10", "UOE");
        test.used();
    }

    private static void refusedUpToTheLastCall() {
        CallsTest test = new CallsTest();
        test.playUntilLeft("""
                row 0 50 0 9 1
                undo
                quota 91
                terms 0 0 0
                layer 0 0 4 0
                bind 0 1 0 0 1
                change 0 0 0 0
                cancel 0 0 short
                reinstate 0 0
                claim 0 0 1
                fact 0 0 0 0
                written 0 0
                earned 0 0 0
                settled 0 0
                posting 0 0
                balance 7
                """, 6);
        test.due("count 4", "0");
        test.due("row 0 49 0 9 10", "0");
        test.due("bind 0 100 0 0 100", "0");
        test.due("claim 0 0 9999", "9999");
        test.due("count 3", "2");
        test.due("balance 1", "-9899");
        test.used();
    }

    private static void rowsUpToTheLastCall() {
        CallsTest test = new CallsTest();
        test.playUntilLeft("row 0 49 0 9 10\nundo", 10);
        for (int r = 0; r < 8; r++) {
            test.due("row " + r + " " + r + " 0 9 1", String.valueOf(r));
        }
        test.due("row 8 8 0 9 1", "ISE");
        test.due("witness", "80");
        test.used();
    }

    private static void refusedPostingsUpToTheLastCall() {
        CallsTest test = new CallsTest();
        test.play("row 0 49 0 9 10\nquota 10\nbind 0 100 0 0 100\nbind 0 100 0 0 100\ncancel 1 50 plain");
        test.play("change 0 0 2 200\nchange 0 0 2 100\n".repeat(17));
        test.play("claim 0 0 10\n".repeat(7) + "claim 0 0 5");
        test.playUntilLeft("bind 0 100 0 0 10\nchange 0 0 2 200\ncancel 0 0 short\nreinstate 1 50\nclaim 0 0 10", 7);
        test.due("count 3", "89");
        test.due("count 0", "2");
        test.due("count 1", "37");
        test.due("count 2", "8");
        test.due("bind 0 100 0 0 9", "2");
        test.due("posting 89 2", "9");
        test.due("written 0 99", "100");
        test.used();
    }
}
