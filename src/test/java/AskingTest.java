import java.util.Arrays;

/** Promises 13 to 16: count, fact, written, earned. */
public final class AskingTest {
    private static final Check check = new Check();

    public static void main(String[] args) {
        counts();
        factsByDay();
        tiesAndOrder();
        asOfABooking();
        forceByDay();
        charges();
        factRefusals();
        writtenIsRoundedOnce();
        earnedByDay();
        premiumRefusals();
        check.end();
    }

    private static CarrierBooks twoRates() {
        CarrierBooks x = new CarrierBooks();
        x.row(0, 24, 0, 9, 10);
        x.row(25, 49, 0, 9, 20);
        return x;
    }

    private static void fact(CarrierBooks x, int due, int policy, int fact, int day, int b) {
        check.answers("fact(" + policy + ", " + fact + ", " + day + ", " + b + ")", due,
                () -> x.fact(policy, fact, day, b));
    }

    private static void counts() {
        CarrierBooks x = twoRates();
        x.quota(50);
        x.bind(0, 10, 0, 0, 100);
        x.bind(0, 10, 0, 0, 100);
        x.change(1, 0, 2, 300);
        x.claim(0, 0, 5);
        x.claim(0, 0, 5);
        x.claim(0, 0, 5);
        x.claim(0, 0, 5);
        int[] due = {2, 3, 4, 14, 2};
        for (int what = 0; what < due.length; what++) {
            int w = what;
            check.answers("count(" + w + ")", due[w], () -> x.count(w));
        }
        for (int what : new int[] {-1, 5, Integer.MIN_VALUE, Integer.MAX_VALUE}) {
            check.answers("count(" + what + ")", -1, () -> x.count(what));
        }
    }

    private static void factsByDay() {
        CarrierBooks x = twoRates();
        x.bind(10, 100, 24, 3, 100);
        fact(x, 24, 0, 0, 10, 0);
        fact(x, 3, 0, 1, 50, 0);
        fact(x, 100, 0, 2, 109, 0);
        fact(x, -1, 0, 0, 9, 0);
        fact(x, -1, 0, 2, 110, 0);
        fact(x, -1, 0, 0, Integer.MIN_VALUE, 0);
        fact(x, -1, 0, 0, Integer.MAX_VALUE, 0);
        x.change(0, 50, 0, 25);
        fact(x, 24, 0, 0, 49, 1);
        fact(x, 25, 0, 0, 50, 1);
        fact(x, 25, 0, 0, 109, 1);
        fact(x, 3, 0, 1, 60, 1);
        fact(x, 100, 0, 2, 60, 1);
        x.bind(10, 100, 7, 8, 9);
        x.change(1, 50, 0, 1);
        fact(x, 25, 0, 0, 60, 3);
        fact(x, 1, 1, 0, 60, 3);
        fact(x, 8, 1, 1, 60, 3);
        fact(x, 9, 1, 2, 60, 3);
    }

    private static void tiesAndOrder() {
        CarrierBooks x = twoRates();
        x.bind(10, 100, 24, 3, 100);
        x.change(0, 50, 2, 500);
        x.change(0, 30, 2, 300);
        fact(x, 100, 0, 2, 29, 2);
        fact(x, 300, 0, 2, 30, 2);
        fact(x, 300, 0, 2, 49, 2);
        fact(x, 500, 0, 2, 50, 2);
        x.change(0, 50, 2, 501);
        fact(x, 501, 0, 2, 50, 3);
        fact(x, 500, 0, 2, 50, 2);
        x.change(0, 10, 2, 101);
        fact(x, 101, 0, 2, 10, 4);
        fact(x, 101, 0, 2, 29, 4);
        fact(x, 300, 0, 2, 30, 4);
        fact(x, 501, 0, 2, 109, 4);
    }

    private static void asOfABooking() {
        CarrierBooks x = twoRates();
        x.bind(0, 100, 24, 3, 100);
        x.change(0, 0, 2, 200);
        x.bind(0, 100, 24, 3, 300);
        x.change(0, 0, 2, 400);
        for (int f = 0; f <= 4; f++) {
            fact(x, -1, 0, f, 0, -1);
            fact(x, -1, 1, f, 0, 1);
        }
        fact(x, -1, 0, 2, 0, Integer.MIN_VALUE);
        fact(x, 100, 0, 2, 0, 0);
        fact(x, 200, 0, 2, 0, 1);
        fact(x, 200, 0, 2, 0, 2);
        fact(x, 400, 0, 2, 0, 3);
        fact(x, 400, 0, 2, 0, 4);
        fact(x, 400, 0, 2, 0, Integer.MAX_VALUE);
        fact(x, 300, 1, 2, 0, 2);
        fact(x, 300, 1, 2, 0, 99);
        int[] due = {0, 100, 200, 200, 400, 400};
        for (int b = -1; b <= 4; b++) {
            int booking = b;
            check.answers("written(0, " + b + ")", due[b + 1], () -> x.written(0, booking));
            check.answers("earned(0, 50, " + b + ")", due[b + 1] / 2, () -> x.earned(0, 50, booking));
        }
        check.answers("written before it is bound", 0, () -> x.written(1, 1));
        check.answers("earned before it is bound", 0, () -> x.earned(1, 99, 1));
        check.answers("written as of any later booking", 400, () -> x.written(0, Integer.MAX_VALUE));
        check.answers("written as of none", 0, () -> x.written(0, Integer.MIN_VALUE));
    }

    private static void forceByDay() {
        CarrierBooks x = twoRates();
        x.bind(10, 100, 24, 3, 100);
        x.cancel(0, 60, false);
        x.cancel(0, 40, false);
        x.reinstate(0, 50);
        fact(x, 1, 0, 3, 39, 3);
        fact(x, 0, 0, 3, 40, 3);
        fact(x, 0, 0, 3, 49, 3);
        fact(x, 1, 0, 3, 50, 3);
        fact(x, 1, 0, 3, 59, 3);
        fact(x, 0, 0, 3, 60, 3);
        fact(x, 0, 0, 3, 109, 3);
        fact(x, -1, 0, 3, 110, 3);
        fact(x, -1, 0, 3, 9, 3);
        fact(x, 1, 0, 3, 59, 1);
        fact(x, 0, 0, 3, 50, 2);
        x.reinstate(0, 60);
        fact(x, 1, 0, 3, 60, 4);
        fact(x, 1, 0, 3, 109, 4);
        fact(x, 0, 0, 3, 49, 4);
        check.answers("written without the gap", 90, () -> x.written(0, 4));
        fact(x, 24, 0, 0, 45, 4);
        fact(x, 100, 0, 2, 45, 4);
    }

    private static void charges() {
        CarrierBooks x = twoRates();
        x.bind(10, 100, 24, 3, 100);
        x.change(0, 50, 0, 25);
        x.change(0, 70, 2, 999);
        x.cancel(0, 80, false);
        fact(x, 1000, 0, 4, 49, 3);
        fact(x, 2000, 0, 4, 50, 3);
        fact(x, 19980, 0, 4, 70, 3);
        fact(x, 0, 0, 4, 80, 3);
        fact(x, 19980, 0, 4, 80, 2);
        fact(x, -1, 0, 4, 110, 3);
        fact(x, -1, 0, 4, 9, 3);
        fact(x, -1, 0, 4, 50, -1);
    }

    private static void factRefusals() {
        CarrierBooks x = twoRates();
        check.refuses("fact without policies", Check.NONE, () -> x.fact(0, 0, 0, 0));
        x.bind(10, 100, 24, 3, 100);
        int[][] none = {{1, 0, 50, 0}, {-1, 0, 50, 0}, {0, -1, 50, 0}, {0, 5, 50, 0}, {0, 5, 0, -1},
            {Integer.MAX_VALUE, 0, 50, 0}, {0, Integer.MIN_VALUE, 50, 0}, {6, 0, 50, 0}};
        for (int[] w : none) {
            check.refuses("fact" + Arrays.toString(w), Check.NONE, () -> x.fact(w[0], w[1], w[2], w[3]));
        }
    }

    private static void writtenIsRoundedOnce() {
        CarrierBooks x = twoRates();
        x.bind(0, 3, 0, 0, 66);
        check.answers("3 * 660 is 1980", 1, () -> x.written(0, 0));
        x.change(0, 1, 2, 68);
        check.answers("660 + 680 + 680 is 2020", 2, () -> x.written(0, 1));
        check.posted("one more", x, 1, 0, 1, 1);
        x.change(0, 2, 2, 65);
        check.answers("660 + 680 + 650 is 1990", 1, () -> x.written(0, 2));
        check.posted("one less", x, 2, 1, 0, 1);
        x.change(0, 2, 2, 66);
        check.answers("660 + 680 + 660 is 2000", 2, () -> x.written(0, 3));
    }

    private static void earnedByDay() {
        CarrierBooks x = twoRates();
        x.bind(10, 100, 24, 3, 150);
        x.change(0, 50, 0, 25);
        x.cancel(0, 100, false);
        int[][] due = {{Integer.MIN_VALUE, 0}, {-5, 0}, {9, 0}, {10, 0}, {11, 1}, {12, 3}, {50, 60}, {51, 63},
            {99, 207}, {100, 210}, {101, 210}, {110, 210}, {999, 210}, {1000, 210}, {Integer.MAX_VALUE, 210}};
        for (int[] d : due) {
            check.answers("earned up to " + d[0], d[1], () -> x.earned(0, d[0], 2));
        }
        check.answers("earned at the end without the cancel", 240, () -> x.earned(0, 110, 1));
        check.answers("without the last day", 237, () -> x.earned(0, 109, 1));
        check.answers("earned as of the bind", 150, () -> x.earned(0, 2000, 0));
        check.answers("earned as of none", 0, () -> x.earned(0, 2000, -1));
    }

    private static void premiumRefusals() {
        CarrierBooks x = twoRates();
        check.refuses("written without policies", Check.NONE, () -> x.written(0, 0));
        check.refuses("earned without policies", Check.NONE, () -> x.earned(0, 0, 0));
        x.bind(10, 100, 24, 3, 100);
        for (int p : new int[] {-1, 1, 6, Integer.MIN_VALUE, Integer.MAX_VALUE}) {
            check.refuses("written of policy " + p, Check.NONE, () -> x.written(p, 0));
            check.refuses("earned of policy " + p, Check.NONE, () -> x.earned(p, 0, 0));
        }
    }
}
