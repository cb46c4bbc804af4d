import java.util.ArrayList;
import java.util.List;

/**
 * What an object answers to all that can be asked of it and to further calls, so that it shows whether two
 * objects are in the same state. Each look is at a new object: one may be used for 512 calls alone.
 */
final class Trace {
    private static final int MOST_CALLS = 512;
    private static final int[] DAYS = {0, 9, 10, 50, 60, 98, 99, 100, 109, 110, 998, 999};
    private static final List<List<Call>> LOOKS = List.of(
            postings(), settled(), facts(), byBooking(), planGoesOn(), policiesGoOn(), claimsGoOn(),
            lossesGrow(), bookingsGoOn(), termsGoOn());

    private Trace() {
    }

    static List<String> behind(List<Call> calls) {
        List<String> answers = new ArrayList<>();
        for (List<Call> look : LOOKS) {
            if (calls.size() + look.size() > MOST_CALLS) {
                throw new AssertionError("more than 512 calls behind " + calls);
            }
            CarrierBooks x = new CarrierBooks();
            for (Call call : calls) {
                call.answerOf(x);
            }
            for (Call call : look) {
                answers.add(call + " answered " + call.answerOf(x));
            }
        }
        return answers;
    }

    private static List<Call> postings() {
        StringBuilder text = new StringBuilder("witness\n");
        askTotals(text);
        ask(text, "posting", 90, 2);
        return Call.all(text.toString());
    }

    private static List<Call> settled() {
        StringBuilder text = new StringBuilder();
        ask(text, "settled", 20, 5);
        for (int policy = 0; policy < 6; policy++) {
            for (int b = -1; b <= 40; b++) {
                text.append("written ").append(policy).append(' ').append(b).append('\n');
            }
        }
        return Call.all(text.toString());
    }

    private static List<Call> facts() {
        StringBuilder text = new StringBuilder();
        for (int policy = 0; policy < 6; policy++) {
            for (int day : DAYS) {
                for (int fact = 0; fact <= 4; fact++) {
                    text.append("fact " + policy + " " + fact + " " + day + " 99\n");
                }
            }
        }
        return Call.all(text.toString());
    }

    private static List<Call> byBooking() {
        StringBuilder text = new StringBuilder();
        for (int policy = 0; policy < 6; policy++) {
            for (int b = -1; b <= 40; b++) {
                text.append("fact " + policy + " 4 50 " + b + "\n");
            }
            for (int day : DAYS) {
                text.append("earned " + policy + " " + day + " 99\n");
            }
        }
        return Call.all(text.toString());
    }

    private static List<Call> planGoesOn() {
        StringBuilder text = new StringBuilder();
        for (int r = 0; r <= 8; r++) {
            text.append("witness\nundo\n");
        }
        text.append("row 0 49 0 9 3\nwitness\nbind 0 200 5 5 500\nfact 0 4 0 99\n");
        askTotals(text);
        ask(text, "posting", 5, 2);
        return Call.all(text.toString());
    }

    private static List<Call> policiesGoOn() {
        StringBuilder text = new StringBuilder();
        for (int policy = 0; policy <= 6; policy++) {
            text.append("bind 10 100 5 5 " + (policy + 500) + "\nfact " + policy + " 2 10 99\n");
            text.append("written " + policy + " 99\n");
        }
        askTotals(text);
        ask(text, "posting", 90, 2);
        return Call.all(text.toString());
    }

    private static List<Call> claimsGoOn() {
        StringBuilder text = new StringBuilder("bind 10 100 5 5 500\n");
        for (int policy = 0; policy < 6; policy++) {
            text.append("claim " + policy + " 50 700\nclaim " + policy + " 50 9999\nclaim " + policy + " 50 30\n");
        }
        ask(text, "settled", 20, 5);
        askTotals(text);
        return Call.all(text.toString());
    }

    /** Losses of all sizes, so that a change of any of the terms shows. */
    private static List<Call> lossesGrow() {
        StringBuilder text = new StringBuilder("bind 10 100 5 5 500\n");
        for (int loss = 9; loss <= 9999; loss += 1 + loss / 3) {
            text.append("claim 0 50 " + loss + "\n");
        }
        ask(text, "settled", 20, 5);
        askTotals(text);
        return Call.all(text.toString());
    }

    private static List<Call> bookingsGoOn() {
        StringBuilder text = new StringBuilder("bind 10 100 5 5 500\n");
        for (int policy = 0; policy < 6; policy++) {
            text.append("change " + policy + " 50 2 777\nchange " + policy + " 50 0 30\n");
            text.append("cancel " + policy + " 60 short\nreinstate " + policy + " 80\nwritten " + policy + " 99\n");
        }
        askTotals(text);
        ask(text, "posting", 90, 2);
        return Call.all(text.toString());
    }

    private static List<Call> termsGoOn() {
        return Call.all("""
                row 0 49 0 9 3
                witness
                undo
                quota 37
                terms 5 100 200
                layer 10 50 1 10
                bind 10 100 5 5 500
                posting 1 2
                claim 0 50 70
                settled 0 4
                """);
    }

    private static void askTotals(StringBuilder text) {
        for (int what = 0; what <= 4; what++) {
            text.append("count ").append(what).append('\n');
        }
        for (int account = 0; account <= 6; account++) {
            text.append("balance ").append(account).append('\n');
        }
    }

    private static void ask(StringBuilder text, String method, int last, int lastWhat) {
        for (int k = 0; k <= last; k++) {
            for (int what = 0; what <= lastWhat; what++) {
                text.append(method + " " + k + " " + what + "\n");
            }
        }
    }
}
