/** Counts and prints the calls whose answer is not the one that is due. */
final class Check {
    static final Class<? extends RuntimeException> STATE = IllegalStateException.class;
    static final Class<? extends RuntimeException> ARGUMENT = IllegalArgumentException.class;
    static final Class<? extends RuntimeException> UNSUPPORTED = UnsupportedOperationException.class;
    static final Class<? extends RuntimeException> NONE = java.util.NoSuchElementException.class;

    private int wrong;

    interface Asked {
        int answer();
    }

    void answers(String what, int due, Asked call) {
        try {
            same(what, String.valueOf(due), String.valueOf(call.answer()));
        } catch (RuntimeException e) {
            report(what + " threw " + e + ", due is " + due);
        }
    }

    void runs(String what, Runnable call) {
        try {
            call.run();
        } catch (RuntimeException e) {
            report(what + " threw " + e + ", due is no exception");
        }
    }

    void refuses(String what, Class<? extends RuntimeException> due, Runnable call) {
        try {
            call.run();
            report(what + " threw nothing, due is " + due.getSimpleName());
        } catch (RuntimeException e) {
            same(what, due.getName(), e.getClass().getName());
        }
    }

    void refusesUnchanged(String what, Class<? extends RuntimeException> due, CarrierBooks x, Runnable call) {
        unchanged(what, x, () -> refuses(what, due, call));
    }

    /** Looks whether what can be counted is behind the calls as it was before them. */
    void unchanged(String what, CarrierBooks x, Runnable calls) {
        String before = summary(x);
        calls.run();
        same(what + ", state behind it", before, summary(x));
    }

    void same(String what, String due, String got) {
        if (!due.equals(got)) {
            report(what + " answered " + got + ", due is " + due);
        }
    }

    void posted(String what, CarrierBooks x, int k, int from, int to, int amount) {
        answers(what + ": posting " + k + " from", from, () -> x.posting(k, 0));
        answers(what + ": posting " + k + " to", to, () -> x.posting(k, 1));
        answers(what + ": posting " + k + " amount", amount, () -> x.posting(k, 2));
    }

    void balances(String what, CarrierBooks x, int... due) {
        for (int account = 0; account < due.length; account++) {
            int a = account;
            answers(what + ": balance " + a, due[a], () -> x.balance(a));
        }
    }

    void end() {
        System.out.println(wrong == 0 ? "all answers are as due" : wrong + " answers are not as due");
        if (wrong != 0) {
            System.exit(1);
        }
    }

    private void report(String text) {
        wrong++;
        System.out.println(text);
    }

    private static String summary(CarrierBooks x) {
        StringBuilder text = new StringBuilder();
        for (int what = 0; what <= 4; what++) {
            text.append(x.count(what)).append(' ');
        }
        text.append(x.witness()).append(" :");
        for (int account = 0; account <= 6; account++) {
            text.append(' ').append(x.balance(account));
        }
        return text.toString();
    }
}
