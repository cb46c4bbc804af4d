import java.util.Map;
import java.util.TreeMap;

/** All promises: runs of at most 512 calls on the program and on the model must answer the same. */
public final class ModelTest {
    private static final int RUNS = 2000;
    private static final int CALLS = 512;
    private static final String[] BOOKING = {"bind", "change", "change", "change", "cancel", "reinstate", "claim"};
    private static final String[] ASKING = {"witness", "count", "fact", "fact", "fact", "written", "earned",
        "settled", "posting", "balance"};
    private static final String[] SETTING = {"row", "undo", "row", "quota", "terms", "layer", "witness"};
    private static final int[] ODD = {-1, -2, Integer.MIN_VALUE, Integer.MAX_VALUE, 1000, 10000};

    private final Check check;
    private final Map<String, Integer> seen;
    private long seed;
    private CarrierBooks books;
    private Model model;
    private String run;
    private int calls;
    private int[] starts;
    private int[] lengths;

    private ModelTest(Check check, Map<String, Integer> seen) {
        this.check = check;
        this.seen = seen;
    }

    public static void main(String[] args) {
        Check check = new Check();
        Map<String, Integer> seen = new TreeMap<>();
        ModelTest test = new ModelTest(check, seen);
        for (int run = 0; run < RUNS; run++) {
            test.run(run);
        }
        String[] due = {
            "row ISE", "row IAE", "undo ISE", "quota ISE", "quota IAE", "terms ISE", "terms IAE", "layer ISE",
            "layer IAE", "bind ISE", "bind IAE", "bind UOE", "change NSE", "change IAE", "change ISE", "change UOE",
            "cancel NSE", "cancel IAE", "cancel ISE", "cancel UOE", "reinstate NSE", "reinstate IAE",
            "reinstate ISE", "reinstate UOE", "claim NSE", "claim IAE", "claim ISE", "claim UOE", "fact NSE",
            "written NSE", "earned NSE", "settled NSE", "posting NSE", "balance NSE",
        };
        for (String kind : due) {
            check.same("runs that reach " + kind, "true", String.valueOf(seen.containsKey(kind)));
        }
        check.end();
    }

    private void run(int number) {
        seed = 1000003L * number + 17;
        books = new CarrierBooks();
        model = new Model();
        run = "run " + number;
        calls = 0;
        starts = new int[6];
        lengths = new int[] {1, 1, 1, 1, 1, 1};
        makePlan();
        // The first of the settings change the plan, and mostly spoil it.
        int skipped = pick(4) == 0 ? 0 : 3;
        int settings = pick(12);
        for (int k = 0; k < settings; k++) {
            callOne(SETTING[skipped + pick(SETTING.length - skipped)]);
        }
        call("quota", edge(90));
        callValid("bind");
        // Some runs book much, some ask much.
        int share = 1 + pick(8);
        boolean late = pick(2) == 0;
        while (calls < CALLS) {
            int kind = pick(10);
            callOne(kind < share ? booking(late)
                    : kind < 9 ? ASKING[pick(ASKING.length)] : SETTING[pick(SETTING.length)]);
        }
    }

    /** Where policies are bound late, claims come first, and the journal can be full before there are six. */
    private String booking(boolean late) {
        String method = BOOKING[pick(BOOKING.length)];
        return late && method.equals("bind") && pick(8) != 0 ? "claim" : method;
    }

    /** Most plans are good: strips of ages, some of them cut into two at a zone. */
    private void makePlan() {
        int from = 0;
        for (int strip = 0; strip < 4 && from <= 49; strip++) {
            int to = strip == 3 ? 49 : from + pick(50 - from);
            int cut = pick(10);
            if (cut == 9) {
                call("row", from, to, 0, 9, 1 + pick(99));
            } else {
                call("row", from, to, 0, cut, 1 + pick(99));
                call("row", from, to, cut + 1, 9, 1 + pick(99));
            }
            from = to + 1;
        }
    }

    private void callOne(String method) {
        if (pick(12) == 0) {
            callOdd(method);
        } else {
            callValid(method);
        }
    }

    private void callOdd(String method) {
        int[] a = arguments(method);
        if (a.length > 0) {
            a[pick(a.length)] = pick(3) == 0 ? pick(300) : ODD[pick(ODD.length)];
        }
        call(method, a);
    }

    private void callValid(String method) {
        call(method, arguments(method));
    }

    private int[] arguments(String method) {
        int policy = pick(Math.max(1, model.call("count", new int[] {0})));
        switch (method) {
            case "row": return row();
            case "undo": case "witness": return new int[0];
            case "quota": return new int[] {pick(91)};
            case "terms": return new int[] {edge(pick(2) == 0 ? 99 : 999), 1 + edge(9998), 1 + edge(9998)};
            case "layer": return new int[] {edge(2000), edge(3000), pick(4), pick(100)};
            case "bind": return new int[] {edge(999), 1 + edge(199), edge(49), edge(9), 1 + edge(998)};
            case "change": return change(policy);
            case "cancel": return new int[] {policy, day(policy), pick(2)};
            case "reinstate": return new int[] {policy, day(policy)};
            case "claim": return new int[] {policy, day(policy), 1 + edge(pick(2) == 0 ? 99 : 9998)};
            case "count": return new int[] {pick(6)};
            case "fact": return new int[] {policy, pick(5), day(policy), booking()};
            case "written": return new int[] {policy, booking()};
            case "earned": return new int[] {policy, day(policy), booking()};
            case "settled": return new int[] {pick(1 + model.call("count", new int[] {2})), pick(6)};
            case "posting": return new int[] {pick(1 + model.call("count", new int[] {3})), pick(3)};
            default: return new int[] {pick(7)};
        }
    }

    private int[] row() {
        int ageFrom = edge(49);
        int zoneFrom = edge(9);
        return new int[] {ageFrom, ageFrom + pick(50 - ageFrom), zoneFrom, zoneFrom + pick(10 - zoneFrom),
            1 + edge(98)};
    }

    private int[] change(int policy) {
        int fact = pick(3);
        int value = fact == 0 ? edge(49) : fact == 1 ? edge(9) : 1 + edge(998);
        return new int[] {policy, day(policy), fact, value};
    }

    /** Mostly days of the policy's term, and those next to it; few of them, so that bookings meet. */
    private int day(int policy) {
        int kind = pick(24);
        if (kind == 0) {
            return edge(999);
        }
        int first = starts[policy];
        int length = lengths[policy];
        return kind == 1 ? first - 1 : kind == 2 ? first + length : kind < 8 ? first + pick(Math.min(4, length))
                : first + edge(length - 1);
    }

    private int booking() {
        return pick(3) == 0 ? 99 : pick(2 + model.call("count", new int[] {1})) - 1;
    }

    private int edge(int greatest) {
        int kind = pick(8);
        return kind == 0 ? 0 : kind == 1 ? greatest : pick(greatest + 1);
    }

    private int pick(int bound) {
        seed = seed * 6364136223846793005L + 1442695040888963407L;
        return (int) ((seed >>> 33) % bound);
    }

    private void call(String method, int... a) {
        calls++;
        Call call = new Call(method, a);
        String due = call.answerOf(model);
        String got = call.answerOf(books);
        seen.merge(method + " " + due, 1, Integer::sum);
        if (method.equals("bind") && due.length() == 1) {
            starts[Integer.parseInt(due)] = a[0];
            lengths[Integer.parseInt(due)] = Math.min(a[1], 1000 - a[0]);
        }
        check.same(run + ", call " + calls + ": " + call, due, got);
    }
}
