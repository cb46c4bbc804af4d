import java.util.Arrays;

/** Promises 8 to 11: bind, change, cancel, reinstate. */
public final class BookingTest {
    private static final Check check = new Check();

    public static void main(String[] args) {
        bindNumbersAndPosts();
        bindNeedsAGoodPlan();
        bindBounds();
        bindWrongNumbers();
        bindAtMostSix();
        changeBooks();
        changeRefusals();
        cancelBooks();
        shortCancelTakesAFee();
        cancelRefusals();
        reinstateBooks();
        reinstateRefusals();
        atMostFortyBookings();
        check.end();
    }

    private static CarrierBooks twoRates() {
        CarrierBooks x = new CarrierBooks();
        x.row(0, 24, 0, 9, 10);
        x.row(25, 49, 0, 9, 20);
        return x;
    }

    private static void bindNumbersAndPosts() {
        CarrierBooks x = twoRates();
        x.quota(40);
        check.answers("first bind", 0, () -> x.bind(10, 100, 24, 3, 100));
        check.posted("first bind", x, 0, 0, 1, 100);
        check.posted("first bind's quota", x, 1, 3, 2, 40);
        check.answers("second bind", 1, () -> x.bind(10, 10, 25, 3, 5));
        check.posted("second bind", x, 2, 0, 1, 1);
        check.answers("a quota of 0 is not posted", 3, () -> x.count(3));
        check.answers("third bind, of no premium", 2, () -> x.bind(0, 1, 0, 0, 99));
        check.answers("a premium of 0 is not posted", 3, () -> x.count(3));
        check.answers("policies", 3, () -> x.count(0));
        check.answers("bookings", 3, () -> x.count(1));
        check.balances("binds", x, -101, 101, 40, -40, 0, 0, 0);
    }

    private static void bindNeedsAGoodPlan() {
        CarrierBooks x = new CarrierBooks();
        check.refusesUnchanged("bind without rows", Check.STATE, x, () -> x.bind(0, 1, 0, 0, 1));
        check.refuses("wrong bind without rows", Check.STATE, () -> x.bind(-1, 0, -1, -1, 0));
        x.row(0, 49, 0, 9, 1);
        x.row(3, 3, 4, 4, 1);
        check.refusesUnchanged("bind with two rows that match", Check.STATE, x, () -> x.bind(0, 1, 0, 0, 1));
        x.undo();
        check.answers("bind with a good plan", 0, () -> x.bind(0, 1, 0, 0, 1));
    }

    private static void bindBounds() {
        CarrierBooks x = twoRates();
        check.answers("least bind", 0, () -> x.bind(0, 1, 0, 0, 1));
        check.answers("greatest bind", 1, () -> x.bind(999, 200, 49, 9, 999));
        check.answers("its term has one day", 19980 / 1000, () -> x.written(1, 1));
        check.answers("longest bind", 2, () -> x.bind(800, 200, 49, 9, 999));
        check.answers("all its days are charged", 999 * 20 * 200 / 1000, () -> x.written(2, 2));
        check.answers("cut by one day", 3, () -> x.bind(801, 200, 49, 9, 999));
        check.answers("the cut day is not charged", 999 * 20 * 199 / 1000, () -> x.written(3, 3));
    }

    private static void bindWrongNumbers() {
        CarrierBooks x = twoRates();
        int[][] wrong = {
            {-1, 1, 0, 0, 1}, {1000, 1, 0, 0, 1}, {0, 0, 0, 0, 1}, {0, 201, 0, 0, 1}, {0, 1, -1, 0, 1},
            {0, 1, 50, 0, 1}, {0, 1, 0, -1, 1}, {0, 1, 0, 10, 1}, {0, 1, 0, 0, 0}, {0, 1, 0, 0, 1000},
            {Integer.MIN_VALUE, 1, 0, 0, 1}, {0, Integer.MAX_VALUE, 0, 0, 1}, {0, 1, 0, 0, Integer.MIN_VALUE},
        };
        check.unchanged("wrong calls of bind", x, () -> {
            for (int[] w : wrong) {
                check.refuses("bind" + Arrays.toString(w), Check.ARGUMENT, () -> x.bind(w[0], w[1], w[2], w[3], w[4]));
            }
        });
        check.answers("the plan is still open", 2, () -> x.row(0, 0, 0, 0, 1));
    }

    private static void bindAtMostSix() {
        CarrierBooks x = twoRates();
        for (int p = 0; p < 6; p++) {
            int policy = p;
            check.answers("bind " + p, policy, () -> x.bind(0, 10, 0, 0, 100));
        }
        check.refusesUnchanged("a seventh policy", Check.STATE, x, () -> x.bind(0, 10, 0, 0, 100));
        check.refuses("a wrong seventh policy", Check.STATE, () -> x.bind(-1, 10, 0, 0, 100));
    }

    private static void changeBooks() {
        CarrierBooks x = twoRates();
        x.quota(30);
        x.bind(10, 100, 24, 3, 100);
        check.answers("change of the age", 1, () -> x.change(0, 50, 0, 25));
        check.posted("60 days at the second rate", x, 2, 0, 1, 60);
        check.posted("its quota", x, 3, 3, 2, 18);
        check.answers("change of the sum, back", 2, () -> x.change(0, 109, 2, 1));
        check.posted("159 / 1000 less: rounded down as a whole", x, 4, 1, 0, 2);
        check.posted("-2 * 30 / 100, rounded down below 0", x, 5, 2, 3, 1);
        check.answers("change of the zone", 3, () -> x.change(0, 10, 1, 9));
        check.answers("without a difference nothing is posted", 6, () -> x.count(3));
        check.answers("written", 158, () -> x.written(0, 3));
        check.balances("changes", x, -158, 158, 47, -47, 0, 0, 0);
    }

    private static void changeRefusals() {
        CarrierBooks x = twoRates();
        x.bind(10, 100, 24, 3, 100);
        int[][] none = {{1, 50, 0, 0}, {-1, 50, 0, 0}, {0, 50, 3, 1}, {0, 50, -1, 1}, {6, -1, 9, -1},
            {Integer.MAX_VALUE, 50, 0, 0}, {0, 50, Integer.MIN_VALUE, 0}, {0, 9, 3, 1}};
        check.unchanged("wrong calls of change", x, () -> {
            for (int[] w : none) {
                check.refuses("change" + Arrays.toString(w), Check.NONE, () -> x.change(w[0], w[1], w[2], w[3]));
            }
        });
        int[][] wrong = {{0, 9, 0, 0}, {0, 110, 0, 0}, {0, 50, 0, -1}, {0, 50, 0, 50}, {0, 50, 1, -1},
            {0, 50, 1, 10}, {0, 50, 2, 0}, {0, 50, 2, 1000}, {0, -1, 0, 0}, {0, Integer.MAX_VALUE, 0, 0}};
        check.unchanged("wrong calls of change", x, () -> {
            for (int[] w : wrong) {
                check.refuses("change" + Arrays.toString(w), Check.ARGUMENT, () -> x.change(w[0], w[1], w[2], w[3]));
            }
        });
        check.answers("first day, least values", 1, () -> x.change(0, 10, 0, 0));
        check.answers("last day, greatest values", 2, () -> x.change(0, 109, 2, 999));
        check.answers("last zone", 3, () -> x.change(0, 109, 1, 9));
        check.answers("last age", 4, () -> x.change(0, 109, 0, 49));
        x.cancel(0, 60, false);
        check.refusesUnchanged("change on the day of the cancel", Check.STATE, x, () -> x.change(0, 60, 0, 1));
        check.refuses("wrong change when not in force", Check.ARGUMENT, () -> x.change(0, 60, 0, 50));
        check.answers("change on the day before", 6, () -> x.change(0, 59, 0, 1));
    }

    private static void cancelBooks() {
        CarrierBooks x = twoRates();
        x.quota(15);
        x.bind(10, 100, 24, 3, 100);
        check.answers("cancel", 1, () -> x.cancel(0, 79, false));
        check.posted("31 days go back", x, 2, 1, 0, 31);
        check.posted("-31 * 15 / 100, rounded down", x, 3, 2, 3, 5);
        check.answers("no fee", 4, () -> x.count(3));
        check.answers("cancel from an earlier day on", 2, () -> x.cancel(0, 10, false));
        check.answers("nothing is written", 0, () -> x.written(0, 2));
        check.balances("cancels", x, 0, 0, 15 - 5 - 11, 11 + 5 - 15, 0, 0, 0);
    }

    private static void shortCancelTakesAFee() {
        CarrierBooks x = twoRates();
        x.bind(10, 100, 24, 3, 100);
        check.answers("short cancel", 1, () -> x.cancel(0, 71, true));
        check.posted("39 days go back", x, 1, 1, 0, 39);
        check.posted("a tenth, rounded down", x, 2, 6, 1, 3);
        check.answers("short cancel of nine days", 2, () -> x.cancel(0, 62, true));
        check.answers("a fee of 0 is not posted", 4, () -> x.count(3));
        x.bind(0, 10, 0, 0, 1);
        check.answers("short cancel without a difference", 4, () -> x.cancel(1, 0, true));
        check.answers("posts nothing", 4, () -> x.count(3));
        check.balances("short cancels", x, -52, 55, 0, 0, 0, 0, -3);

        CarrierBooks y = twoRates();
        y.quota(50);
        y.bind(0, 100, 0, 0, 100);
        y.cancel(0, 0, true);
        check.posted("premium back", y, 2, 1, 0, 100);
        check.posted("then the quota back", y, 3, 2, 3, 50);
        check.posted("then the fee", y, 4, 6, 1, 10);
    }

    private static void cancelRefusals() {
        CarrierBooks x = twoRates();
        check.refuses("cancel without policies", Check.NONE, () -> x.cancel(0, 0, false));
        x.bind(10, 100, 24, 3, 100);
        check.refusesUnchanged("cancel of no policy", Check.NONE, x, () -> x.cancel(1, 50, true));
        check.refuses("cancel of policy -1", Check.NONE, () -> x.cancel(-1, -1, true));
        check.refusesUnchanged("cancel before the term", Check.ARGUMENT, x, () -> x.cancel(0, 9, true));
        check.refusesUnchanged("cancel behind the term", Check.ARGUMENT, x, () -> x.cancel(0, 110, true));
        check.answers("cancel on the last day", 1, () -> x.cancel(0, 109, true));
        check.refusesUnchanged("cancel twice", Check.STATE, x, () -> x.cancel(0, 109, true));
        check.answers("cancel on the first day", 2, () -> x.cancel(0, 10, true));
        check.refuses("cancel when cancelled before", Check.STATE, () -> x.cancel(0, 100, false));
        check.refuses("cancel behind the term, cancelled", Check.ARGUMENT, () -> x.cancel(0, 110, true));
    }

    private static void reinstateBooks() {
        CarrierBooks x = twoRates();
        x.quota(10);
        x.bind(10, 100, 24, 3, 100);
        x.cancel(0, 80, false);
        check.answers("reinstate", 2, () -> x.reinstate(0, 95));
        check.posted("15 days again", x, 4, 0, 1, 15);
        check.posted("their quota", x, 5, 3, 2, 1);
        check.answers("in force again", 1, () -> x.fact(0, 3, 95, 2));
        check.answers("not yet in force", 0, () -> x.fact(0, 3, 94, 2));
        check.answers("reinstate on the day of the cancel", 3, () -> x.reinstate(0, 80));
        check.answers("all days again", 100, () -> x.written(0, 3));
        check.answers("cancel on that day again", 4, () -> x.cancel(0, 80, false));
        check.answers("up to the later reinstate", 85, () -> x.written(0, 4));
    }

    private static void reinstateRefusals() {
        CarrierBooks x = twoRates();
        x.bind(10, 100, 24, 3, 100);
        check.refusesUnchanged("reinstate when in force", Check.STATE, x, () -> x.reinstate(0, 50));
        x.cancel(0, 60, false);
        check.refuses("reinstate before the cancel", Check.STATE, () -> x.reinstate(0, 59));
        check.refusesUnchanged("reinstate of no policy", Check.NONE, x, () -> x.reinstate(1, 60));
        check.refuses("reinstate of policy -1", Check.NONE, () -> x.reinstate(-1, 1000));
        check.refusesUnchanged("reinstate before the term", Check.ARGUMENT, x, () -> x.reinstate(0, 9));
        check.refusesUnchanged("reinstate behind the term", Check.ARGUMENT, x, () -> x.reinstate(0, 110));
        check.answers("reinstate on the last day", 2, () -> x.reinstate(0, 109));
    }

    private static void atMostFortyBookings() {
        CarrierBooks x = twoRates();
        x.bind(0, 100, 0, 0, 100);
        x.bind(0, 100, 0, 0, 100);
        x.cancel(1, 50, false);
        for (int b = 3; b < 40; b++) {
            int booking = b;
            check.answers("booking " + b, booking, () -> x.change(0, booking, 1, booking % 10));
        }
        check.answers("bookings", 40, () -> x.count(1));
        check.refusesUnchanged("41st, change", Check.STATE, x, () -> x.change(0, 0, 1, 0));
        check.refusesUnchanged("41st, cancel", Check.STATE, x, () -> x.cancel(0, 0, true));
        check.refusesUnchanged("41st, reinstate", Check.STATE, x, () -> x.reinstate(1, 50));
        check.refusesUnchanged("41st, bind", Check.STATE, x, () -> x.bind(0, 1, 0, 0, 1));
        check.refuses("41st, wrong bind", Check.STATE, () -> x.bind(-1, 1, 0, 0, 1));
        check.refuses("41st, wrong change", Check.ARGUMENT, () -> x.change(0, 0, 1, 10));
        check.refuses("41st, wrong cancel", Check.ARGUMENT, () -> x.cancel(0, 100, true));
        check.refuses("41st, wrong reinstate", Check.ARGUMENT, () -> x.reinstate(1, 100));
        check.answers("a claim is no booking", 5, () -> x.claim(0, 0, 5));
    }
}
