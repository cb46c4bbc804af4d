import java.util.Arrays;

/** Promises 2 to 4: row, undo, witness. */
public final class PlanTest {
    private static final Check check = new Check();

    public static void main(String[] args) {
        rowNumbers();
        rowBounds();
        rowWrongNumbers();
        rowStateComesFirst();
        undoTakesTheLatest();
        closedPlan();
        witnessOrder();
        witnessCorners();
        matchedByOneRow();
        check.end();
    }

    private static void rowNumbers() {
        CarrierBooks x = new CarrierBooks();
        for (int r = 0; r < 8; r++) {
            int n = r;
            check.answers("row " + n, n, () -> x.row(n, n, 0, 9, 1));
            check.answers("rows after row " + n, n + 1, () -> x.count(4));
        }
        check.refusesUnchanged("a ninth row", Check.STATE, x, () -> x.row(8, 8, 0, 9, 1));
        x.undo();
        check.answers("row in the place of the eighth", 7, () -> x.row(9, 9, 0, 9, 1));
    }

    private static void rowBounds() {
        CarrierBooks x = new CarrierBooks();
        check.answers("widest row", 0, () -> x.row(0, 49, 0, 9, 99));
        check.answers("first corner", 1, () -> x.row(0, 0, 0, 0, 1));
        check.answers("last corner", 2, () -> x.row(49, 49, 9, 9, 1));
    }

    private static void rowWrongNumbers() {
        CarrierBooks x = new CarrierBooks();
        int[][] wrong = {
            {-1, 5, 0, 9, 1}, {0, 50, 0, 9, 1}, {50, 50, 0, 9, 1}, {-2, -1, 0, 9, 1}, {5, 4, 0, 9, 1},
            {0, 49, -1, 5, 1}, {0, 49, 0, 10, 1}, {0, 49, 10, 10, 1}, {0, 49, -2, -1, 1}, {0, 49, 5, 4, 1},
            {0, 49, 0, 9, 0}, {0, 49, 0, 9, 100}, {0, 49, 0, 9, -1},
            {Integer.MIN_VALUE, 49, 0, 9, 1}, {0, Integer.MAX_VALUE, 0, 9, 1},
            {0, 49, Integer.MIN_VALUE, 9, 1}, {0, 49, 0, Integer.MAX_VALUE, 1},
            {0, 49, 0, 9, Integer.MIN_VALUE}, {0, 49, 0, 9, Integer.MAX_VALUE},
        };
        check.unchanged("wrong calls of row", x, () -> {
            for (int[] w : wrong) {
                check.refuses("row" + Arrays.toString(w), Check.ARGUMENT, () -> x.row(w[0], w[1], w[2], w[3], w[4]));
            }
        });
        check.answers("row behind wrong ones", 0, () -> x.row(0, 49, 0, 9, 1));
    }

    private static void rowStateComesFirst() {
        CarrierBooks x = new CarrierBooks();
        for (int r = 0; r < 8; r++) {
            x.row(r, r, 0, 9, 1);
        }
        check.refuses("a full plan and a wrong row", Check.STATE, () -> x.row(5, 4, 0, 9, 100));
        CarrierBooks y = new CarrierBooks();
        y.row(0, 49, 0, 9, 1);
        y.bind(0, 1, 0, 0, 1);
        check.refuses("a closed plan and a wrong row", Check.STATE, () -> y.row(5, 4, 0, 9, 100));
    }

    private static void undoTakesTheLatest() {
        CarrierBooks x = new CarrierBooks();
        check.refusesUnchanged("undo without rows", Check.STATE, x, x::undo);
        x.row(0, 49, 0, 4, 1);
        x.row(0, 49, 5, 9, 2);
        check.answers("two rows are good", -1, x::witness);
        check.runs("undo", x::undo);
        check.answers("rows after undo", 1, () -> x.count(4));
        check.answers("witness after undo", 5, x::witness);
        check.runs("undo again", x::undo);
        check.answers("rows after both undos", 0, () -> x.count(4));
        check.refuses("undo without rows again", Check.STATE, x::undo);
        x.row(0, 49, 0, 9, 7);
        x.bind(0, 1, 0, 0, 100);
        check.answers("the rate of the row told last", 700, () -> x.fact(0, 4, 0, 0));
    }

    private static void closedPlan() {
        CarrierBooks x = new CarrierBooks();
        x.row(0, 49, 0, 9, 1);
        x.bind(0, 1, 0, 0, 1);
        check.refusesUnchanged("row of a closed plan", Check.STATE, x, () -> x.row(0, 0, 0, 0, 1));
        check.refusesUnchanged("undo of a closed plan", Check.STATE, x, x::undo);
        check.answers("witness of a closed plan", -1, x::witness);
        check.answers("rows of a closed plan", 1, () -> x.count(4));
        x.cancel(0, 0, false);
        check.refuses("row, the policy being cancelled", Check.STATE, () -> x.row(0, 0, 0, 0, 1));
    }

    private static void witnessOrder() {
        CarrierBooks x = new CarrierBooks();
        x.row(0, 2, 0, 9, 1);
        x.row(3, 3, 0, 8, 1);
        x.row(4, 49, 1, 9, 1);
        check.answers("age before zone", 39, x::witness);
        x.row(2, 3, 9, 9, 1);
        check.answers("matched twice, before the gap", 29, x::witness);
        x.undo();
        x.row(3, 3, 9, 9, 1);
        check.answers("the gap of the next age", 40, x::witness);
        x.row(4, 49, 0, 0, 1);
        check.answers("now good", -1, x::witness);
        x.row(7, 7, 3, 3, 1);
        check.answers("two rows match", 73, x::witness);
        x.row(7, 7, 3, 3, 1);
        check.answers("three rows match", 73, x::witness);
    }

    private static void witnessCorners() {
        CarrierBooks x = new CarrierBooks();
        x.row(0, 48, 0, 9, 1);
        check.answers("no row matches the last age", 490, x::witness);
        x.row(49, 49, 0, 8, 1);
        check.answers("the last corner", 499, x::witness);
        check.refuses("bind with the last corner left", Check.STATE, () -> x.bind(0, 1, 0, 0, 1));
        x.row(49, 49, 9, 9, 1);
        check.answers("the last corner is matched", -1, x::witness);
        x.row(49, 49, 9, 9, 1);
        check.answers("the last corner is matched twice", 499, x::witness);
    }

    private static void matchedByOneRow() {
        CarrierBooks x = new CarrierBooks();
        x.row(0, 24, 0, 4, 3);
        x.row(0, 24, 5, 9, 5);
        x.row(25, 49, 0, 4, 7);
        x.row(25, 49, 5, 9, 11);
        x.bind(0, 1, 24, 4, 1);
        x.bind(0, 1, 24, 5, 1);
        x.bind(0, 1, 25, 4, 1);
        x.bind(0, 1, 25, 5, 1);
        x.bind(0, 1, 49, 9, 1);
        x.bind(0, 1, 0, 0, 1);
        int[] due = {3, 5, 7, 11, 11, 3};
        for (int p = 0; p < due.length; p++) {
            int policy = p;
            check.answers("rate of policy " + p, due[p], () -> x.fact(policy, 4, 0, 99));
        }
    }
}
