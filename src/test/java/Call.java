import java.util.ArrayList;
import java.util.Arrays;
import java.util.List;
import java.util.NoSuchElementException;

/** A call of the face, written as text: "bind 0 100 24 3 500"; a cancel is "short" or "plain". */
record Call(String method, int[] a) {
    static Call of(String text) {
        String[] words = text.trim().split(" +");
        int[] numbers = new int[words.length - 1];
        for (int k = 0; k < numbers.length; k++) {
            numbers[k] = number(words[k + 1]);
        }
        return new Call(words[0], numbers);
    }

    static List<Call> all(String lines) {
        List<Call> calls = new ArrayList<>();
        for (String line : lines.split("\n")) {
            if (!line.isBlank()) {
                calls.add(of(line));
            }
        }
        return calls;
    }

    private static int number(String word) {
        switch (word) {
            case "short": return 1;
            case "plain": return 0;
            case "MIN": return Integer.MIN_VALUE;
            case "MAX": return Integer.MAX_VALUE;
            default: return Integer.parseInt(word);
        }
    }

    /** The answer as text, that of a method without one being 0; of an exception its short name. */
    String answerOf(CarrierBooks x) {
        return answer(() -> ask(x));
    }

    String answerOf(Model model) {
        return answer(() -> model.call(method, a));
    }

    private static String answer(Check.Asked asked) {
        try {
            return String.valueOf(asked.answer());
        } catch (RuntimeException e) {
            return shortName(e.getClass());
        }
    }

    static String shortName(Class<?> kind) {
        return kind == IllegalStateException.class ? "ISE"
                : kind == IllegalArgumentException.class ? "IAE"
                : kind == NoSuchElementException.class ? "NSE"
                : kind == UnsupportedOperationException.class ? "UOE" : kind.getName();
    }

    private int ask(CarrierBooks x) {
        switch (method) {
            case "row": return x.row(a[0], a[1], a[2], a[3], a[4]);
            case "undo": x.undo(); return 0;
            case "witness": return x.witness();
            case "quota": x.quota(a[0]); return 0;
            case "terms": x.terms(a[0], a[1], a[2]); return 0;
            case "layer": x.layer(a[0], a[1], a[2], a[3]); return 0;
            case "bind": return x.bind(a[0], a[1], a[2], a[3], a[4]);
            case "change": return x.change(a[0], a[1], a[2], a[3]);
            case "cancel": return x.cancel(a[0], a[1], a[2] == 1);
            case "reinstate": return x.reinstate(a[0], a[1]);
            case "claim": return x.claim(a[0], a[1], a[2]);
            case "count": return x.count(a[0]);
            case "fact": return x.fact(a[0], a[1], a[2], a[3]);
            case "written": return x.written(a[0], a[1]);
            case "earned": return x.earned(a[0], a[1], a[2]);
            case "settled": return x.settled(a[0], a[1]);
            case "posting": return x.posting(a[0], a[1]);
            case "balance": return x.balance(a[0]);
            default: throw new AssertionError(method);
        }
    }

    @Override
    public String toString() {
        return method + Arrays.toString(a);
    }
}
