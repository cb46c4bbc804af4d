import java.util.ArrayList;
import java.util.HashMap;
import java.util.List;
import java.util.Map;
import java.util.Set;

/**
 * Sentences of the document, each with runs of calls on new objects that would answer otherwise if it were
 * broken. A run is a text with a call a line, "bind 0 100 24 3 500 = 0": behind the = stands the answer that is
 * due, or ISE, IAE, NSE, UOE for an exception; a line without = must not throw. Behind each refused call it is
 * looked whether anything has changed.
 */
final class Sentences {
    private static final Set<String> EXCEPTIONS = Set.of("ISE", "IAE", "NSE", "UOE");

    private final Check check = new Check();
    private final Map<String, List<String>> traces = new HashMap<>();

    void holds(String sentence, String... runs) {
        if (runs.length == 0) {
            throw new AssertionError("no run for: " + sentence);
        }
        for (int k = 0; k < runs.length; k++) {
            play("\"" + sentence + "\", run " + k, runs[k]);
        }
    }

    void end() {
        check.end();
    }

    private void play(String name, String run) {
        CarrierBooks x = new CarrierBooks();
        Model model = new Model();
        List<Call> before = new ArrayList<>();
        int number = 0;
        for (String line : run.split("\n")) {
            if (line.isBlank()) {
                continue;
            }
            String[] halves = line.split("=");
            Call call = Call.of(halves[0]);
            String got = call.answerOf(x);
            number++;
            String what = name + ", call " + number + ": " + call;
            check.same(what + " of the model", call.answerOf(model), got);
            if (halves.length == 1) {
                check.same(what + " throws", "false", String.valueOf(isException(got)));
            } else {
                check.same(what, halves[1].trim(), got);
            }
            if (isException(got)) {
                leavesNoTrace(what, before, call);
            } else {
                before.add(call);
            }
        }
    }

    private static boolean isException(String answer) {
        return EXCEPTIONS.contains(answer) || answer.indexOf('.') >= 0;
    }

    private void leavesNoTrace(String what, List<Call> before, Call refused) {
        List<String> due = traces.computeIfAbsent(before.toString(), key -> Trace.behind(before));
        List<Call> with = new ArrayList<>(before);
        with.add(refused);
        List<String> got = Trace.behind(with);
        for (int k = 0; k < due.size(); k++) {
            if (!due.get(k).equals(got.get(k))) {
                check.same(what + ", behind it", due.get(k), got.get(k));
                return;
            }
        }
    }
}
