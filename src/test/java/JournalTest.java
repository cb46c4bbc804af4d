import java.util.Arrays;

/** Promises 18 and 19: posting, balance; and the journal's limit of 90 postings. */
public final class JournalTest {
    private static final Check check = new Check();

    public static void main(String[] args) {
        postingRefusals();
        balanceRefusals();
        balancesAddUp();
        fullByClaims();
        fullByBookings();
        check.end();
    }

    private static CarrierBooks flat(int quota) {
        CarrierBooks x = new CarrierBooks();
        x.row(0, 49, 0, 9, 10);
        x.quota(quota);
        return x;
    }

    private static void postingRefusals() {
        CarrierBooks x = flat(50);
        check.refuses("posting of an empty journal", Check.NONE, () -> x.posting(0, 0));
        x.bind(0, 10, 0, 0, 100);
        check.posted("first", x, 0, 0, 1, 10);
        check.posted("second", x, 1, 3, 2, 5);
        int[][] none = {{2, 0}, {-1, 0}, {0, 3}, {0, -1}, {1, 3}, {89, 0}, {90, 0},
            {Integer.MAX_VALUE, 0}, {0, Integer.MIN_VALUE}, {Integer.MIN_VALUE, 2}};
        check.unchanged("wrong calls of posting", x, () -> {
            for (int[] w : none) {
                check.refuses("posting" + Arrays.toString(w), Check.NONE, () -> x.posting(w[0], w[1]));
            }
        });
    }

    private static void balanceRefusals() {
        CarrierBooks x = new CarrierBooks();
        for (int account : new int[] {-1, 7, Integer.MIN_VALUE, Integer.MAX_VALUE}) {
            check.refuses("balance(" + account + ")", Check.NONE, () -> x.balance(account));
        }
    }

    private static void balancesAddUp() {
        CarrierBooks x = flat(37);
        x.layer(10, 100, 1, 50);
        x.bind(0, 100, 0, 0, 123);
        x.change(0, 40, 2, 77);
        x.cancel(0, 60, true);
        x.reinstate(0, 71);
        x.claim(0, 5, 300);
        x.claim(0, 80, 90);
        int[] sums = new int[7];
        for (int k = 0; k < x.count(3); k++) {
            sums[x.posting(k, 0)] -= x.posting(k, 2);
            sums[x.posting(k, 1)] += x.posting(k, 2);
            int posting = k;
            check.answers("posting " + k + " is above 0", 1, () -> x.posting(posting, 2) > 0 ? 1 : 0);
        }
        check.balances("sums of the postings", x, sums);
        check.same("sum of all", "0", String.valueOf(Arrays.stream(sums).sum()));
        int ceded = 45 - 11 - 12 + 8;
        int recovered = 111 + 100 + 33 + 47;
        check.balances("by hand", x, -86, 86 + 3 - 390, ceded + 50, -ceded + recovered - 50, 390, -recovered, -3);
    }

    /** 40 bookings of two postings each and five claims: a claim of two postings does not fit, one of one does. */
    private static void fullByClaims() {
        CarrierBooks x = flat(10);
        x.bind(0, 100, 0, 0, 100);
        for (int b = 1; b < 40; b++) {
            x.change(0, 0, 2, b % 2 == 1 ? 200 : 100);
        }
        check.answers("two postings a booking", 80, () -> x.count(3));
        for (int k = 0; k < 4; k++) {
            x.claim(0, 0, 10);
        }
        x.claim(0, 0, 9);
        check.answers("one posting for a claim below the quota", 89, () -> x.count(3));
        check.refusesUnchanged("a claim of two postings", Check.UNSUPPORTED, x, () -> x.claim(0, 0, 10));
        check.refuses("a wrong claim", Check.ARGUMENT, () -> x.claim(0, 0, 0));
        check.refuses("a claim outside the term", Check.STATE, () -> x.claim(0, 100, 10));
        check.refuses("a 41st booking", Check.STATE, () -> x.change(0, 0, 2, 999));
        check.refuses("settled of the refused claim", Check.NONE, () -> x.settled(5, 0));
        check.answers("a claim of one posting", 9, () -> x.claim(0, 0, 9));
        check.answers("the journal is full", 90, () -> x.count(3));
        check.posted("the last posting", x, 89, 1, 4, 9);
        check.refusesUnchanged("a claim of one posting, full", Check.UNSUPPORTED, x, () -> x.claim(0, 0, 9));
        check.refuses("posting 90", Check.NONE, () -> x.posting(90, 0));
        check.answers("a claim of nothing, full", 0, () -> {
            CarrierBooks y = fullJournal();
            return y.claim(0, 0, 5);
        });
        check.balances("full", x, -200, 200 - 58, 20, -20 + 4, 58, -4, 0);
    }

    /** 20 claims of two postings each, then bookings of two or three. */
    private static void fullByBookings() {
        CarrierBooks x = flat(10);
        x.bind(0, 100, 0, 0, 100);
        for (int k = 0; k < 20; k++) {
            x.claim(0, 0, 10);
        }
        for (int b = 1; b < 23; b++) {
            x.change(0, 0, 2, b % 2 == 1 ? 200 : 100);
        }
        x.bind(0, 100, 0, 0, 9);
        x.cancel(1, 0, false);
        check.answers("postings before the last one", 89, () -> x.count(3));
        check.refusesUnchanged("change of two postings", Check.UNSUPPORTED, x, () -> x.change(0, 0, 2, 200));
        check.answers("its value is not told", 100, () -> x.fact(0, 2, 0, 99));
        check.refusesUnchanged("short cancel of three", Check.UNSUPPORTED, x, () -> x.cancel(0, 0, true));
        check.answers("it is still in force", 1, () -> x.fact(0, 3, 0, 99));
        check.refusesUnchanged("bind of two", Check.UNSUPPORTED, x, () -> x.bind(0, 100, 0, 0, 100));
        check.refuses("its policy is not there", Check.NONE, () -> x.written(2, 99));
        check.refuses("wrong bind", Check.ARGUMENT, () -> x.bind(0, 100, 0, 0, 0));
        check.answers("change of one posting", 25, () -> x.change(0, 0, 2, 109));
        check.answers("the journal is full", 90, () -> x.count(3));
        check.refusesUnchanged("reinstate of one", Check.UNSUPPORTED, x, () -> x.reinstate(1, 0));
        check.answers("it is still cancelled", 0, () -> x.fact(1, 3, 0, 99));
        check.refuses("wrong reinstate", Check.ARGUMENT, () -> x.reinstate(1, 100));
        check.refuses("reinstate when in force", Check.STATE, () -> x.reinstate(0, 0));
        check.answers("change of no posting", 26, () -> x.change(0, 0, 1, 1));
        check.answers("bind of no posting", 2, () -> x.bind(0, 1, 0, 0, 1));
        check.answers("short cancel of no posting", 28, () -> x.cancel(2, 0, true));
        check.balances("full", x, -109, 109 - 200, 9, -9 + 20, 200, -20, 0);
    }

    /** 90 postings, a deductible of 5, and one claim more that is free. */
    private static CarrierBooks fullJournal() {
        CarrierBooks x = flat(10);
        x.terms(5, 9999, 9999);
        x.bind(0, 100, 0, 0, 100);
        for (int b = 1; b < 40; b++) {
            x.change(0, 0, 2, b % 2 == 1 ? 200 : 100);
        }
        for (int k = 0; k < 5; k++) {
            x.claim(0, 0, 15);
        }
        check.answers("full journal", 90, () -> x.count(3));
        return x;
    }
}
