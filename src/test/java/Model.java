import java.util.ArrayList;
import java.util.List;
import java.util.NoSuchElementException;

/** A second, plain reading of the document: day by day, booking by booking, nothing kept that can be asked. */
final class Model {
    private record Row(int ageFrom, int ageTo, int zoneFrom, int zoneTo, int rate) { }

    private record Policy(int start, int length) { }

    /** Kind: 0 BIND, 1 CHANGE, 2 CANCEL, 3 REINSTATE; a BIND has three values, a CHANGE its fact and value. */
    private record Booking(int policy, int kind, int day, int[] told) { }

    private record Posting(int from, int to, int amount) { }

    private final List<Row> rows = new ArrayList<>();
    private final List<Policy> policies = new ArrayList<>();
    private final List<Booking> bookings = new ArrayList<>();
    private final List<Posting> journal = new ArrayList<>();
    private final List<int[]> claims = new ArrayList<>();
    private int quota = 0;
    private int[] terms = {0, 9999, 9999};
    private int[] layer = {9999, 0, 0, 0};

    int call(String method, int[] a) {
        switch (method) {
            case "row": return row(a);
            case "undo": return undo();
            case "witness": return witness();
            case "quota": return quota(a[0]);
            case "terms": return terms(a);
            case "layer": return layer(a);
            case "bind": return bind(a);
            case "change": return change(a[0], a[1], a[2], a[3]);
            case "cancel": return cancel(a[0], a[1], a[2] == 1);
            case "reinstate": return reinstate(a[0], a[1]);
            case "claim": return claim(a[0], a[1], a[2]);
            case "count": return count(a[0]);
            case "fact": return fact(a[0], a[1], a[2], a[3]);
            case "written": return premium(known(a[0]), 5000, a[1]);
            case "earned": return premium(known(a[0]), a[1], a[2]);
            case "settled": return element(claims.size(), 6, a) ? claims.get(a[0])[a[1]] : none();
            case "posting": return element(journal.size(), 3, a) ? posting(journal.get(a[0]), a[1]) : none();
            case "balance": return a[0] < 0 || a[0] > 6 ? none() : balance(a[0]);
            default: throw new AssertionError(method);
        }
    }

    private int row(int[] a) {
        state(!policies.isEmpty() || rows.size() >= 8);
        argument(out(a[0], 0, 49) || out(a[1], 0, 49) || out(a[2], 0, 9) || out(a[3], 0, 9) || out(a[4], 1, 99)
                || a[0] > a[1] || a[2] > a[3]);
        rows.add(new Row(a[0], a[1], a[2], a[3], a[4]));
        return rows.size() - 1;
    }

    private int undo() {
        state(!policies.isEmpty() || rows.isEmpty());
        rows.remove(rows.size() - 1);
        return 0;
    }

    private List<Row> matching(int age, int zone) {
        List<Row> found = new ArrayList<>();
        for (Row r : rows) {
            if (!out(age, r.ageFrom(), r.ageTo()) && !out(zone, r.zoneFrom(), r.zoneTo())) {
                found.add(r);
            }
        }
        return found;
    }

    private int witness() {
        for (int cell = 0; cell < 500; cell++) {
            if (matching(cell / 10, cell % 10).size() != 1) {
                return cell;
            }
        }
        return -1;
    }

    private int quota(int q) {
        state(!policies.isEmpty());
        argument(out(q, 0, 90));
        quota = q;
        return 0;
    }

    private int terms(int[] a) {
        state(!claims.isEmpty());
        argument(out(a[0], 0, 999) || out(a[1], 1, 9999) || out(a[2], 1, 9999));
        terms = a.clone();
        return 0;
    }

    private int layer(int[] a) {
        state(!claims.isEmpty());
        argument(out(a[0], 0, 9999) || out(a[1], 0, 9999) || out(a[2], 0, 3) || out(a[3], 0, 99));
        layer = a.clone();
        return 0;
    }

    private int bind(int[] a) {
        state(witness() != -1 || policies.size() >= 6 || bookings.size() >= 40);
        argument(out(a[0], 0, 999) || out(a[1], 1, 200) || out(a[2], 0, 49) || out(a[3], 0, 9) || out(a[4], 1, 999));
        policies.add(new Policy(a[0], a[1]));
        try {
            book(new Booking(policies.size() - 1, 0, a[0], new int[] {a[2], a[3], a[4]}), false);
        } catch (UnsupportedOperationException e) {
            policies.remove(policies.size() - 1);
            throw e;
        }
        return policies.size() - 1;
    }

    private int change(int policy, int day, int fact, int value) {
        known(policy);
        if (out(fact, 0, 2)) {
            none();
        }
        argument(!inTerm(policy, day) || out(value, fact == 2 ? 1 : 0, fact == 0 ? 49 : fact == 1 ? 9 : 999));
        state(!inForce(policy, day, 99) || bookings.size() >= 40);
        return book(new Booking(policy, 1, day, new int[] {fact, value}), false);
    }

    private int cancel(int policy, int day, boolean shortly) {
        known(policy);
        argument(!inTerm(policy, day));
        state(!inForce(policy, day, 99) || bookings.size() >= 40);
        return book(new Booking(policy, 2, day, null), shortly);
    }

    private int reinstate(int policy, int day) {
        known(policy);
        argument(!inTerm(policy, day));
        state(inForce(policy, day, 99) || bookings.size() >= 40);
        return book(new Booking(policy, 3, day, null), false);
    }

    private int book(Booking booking, boolean shortly) {
        bookings.add(booking);
        int b = bookings.size() - 1;
        int d = premium(booking.policy(), 5000, b) - premium(booking.policy(), 5000, b - 1);
        int before = journal.size();
        post(d, 0, 1);
        post(down(d * quota, 100), 3, 2);
        post(shortly && d < 0 ? down(-d, 10) : 0, 6, 1);
        if (journal.size() > 90) {
            bookings.remove(b);
            tooMany(before);
        }
        return b;
    }

    private int claim(int policy, int day, int loss) {
        known(policy);
        argument(out(day, 0, 999) || out(loss, 1, 9999));
        state(!inForce(policy, day, 99) || claims.size() >= 20);
        int paidBefore = 0;
        int partsBefore = 0;
        int renewedBefore = 0;
        for (int[] c : claims) {
            paidBefore += c[0] == policy ? c[2] : 0;
            partsBefore += c[4];
            renewedBefore += c[5];
        }
        int paid = least(loss < terms[0] ? 0 : loss - terms[0], terms[1], terms[2] - paidBefore);
        int quotaPart = down(paid * quota, 100);
        int above = paid - quotaPart - layer[0];
        int layerPart = least(above < 0 ? 0 : above, layer[1], layer[1] * (1 + layer[2]) - partsBefore);
        int renewed = least(layerPart, layerPart, layer[1] * layer[2] - renewedBefore);
        int before = journal.size();
        post(paid, 1, 4);
        post(quotaPart + layerPart, 5, 3);
        post(down(renewed * layer[3], 100), 3, 2);
        if (journal.size() > 90) {
            tooMany(before);
        }
        claims.add(new int[] {policy, day, paid, quotaPart, layerPart, renewed});
        return paid;
    }

    private int count(int what) {
        int[] counts = {policies.size(), bookings.size(), claims.size(), journal.size(), rows.size()};
        return out(what, 0, 4) ? -1 : counts[what];
    }

    private int fact(int policy, int fact, int day, int b) {
        known(policy);
        if (out(fact, 0, 4)) {
            none();
        }
        if (!inTerm(policy, day) || !isBound(policy, b)) {
            return -1;
        }
        return fact == 4 ? charge(policy, day, b) : fact == 3 ? (inForce(policy, day, b) ? 1 : 0)
                : value(policy, fact, day, b);
    }

    private boolean inTerm(int policy, int day) {
        Policy p = policies.get(policy);
        return day >= p.start() && day <= 999 && day - p.start() < p.length();
    }

    private boolean isBound(int policy, int b) {
        for (int i = 0; i < bookings.size() && i <= b; i++) {
            if (bookings.get(i).policy() == policy) {
                return true;
            }
        }
        return false;
    }

    private int value(int policy, int fact, int day, int b) {
        Booking best = null;
        for (int i = 0; i < bookings.size() && i <= b; i++) {
            Booking k = bookings.get(i);
            boolean tells = k.kind() == 0 || k.kind() == 1 && k.told()[0] == fact;
            if (k.policy() == policy && tells && k.day() <= day && (best == null || k.day() >= best.day())) {
                best = k;
            }
        }
        return best.kind() == 0 ? best.told()[fact] : best.told()[1];
    }

    private boolean inForce(int policy, int day, int b) {
        if (!inTerm(policy, day) || !isBound(policy, b)) {
            return false;
        }
        Booking best = null;
        for (int i = 0; i < bookings.size() && i <= b; i++) {
            Booking k = bookings.get(i);
            if (k.policy() == policy && k.kind() >= 2 && k.day() <= day && (best == null || k.day() >= best.day())) {
                best = k;
            }
        }
        return best == null || best.kind() == 3;
    }

    private int charge(int policy, int day, int b) {
        if (!inForce(policy, day, b)) {
            return 0;
        }
        int rate = matching(value(policy, 0, day, b), value(policy, 1, day, b)).get(0).rate();
        return value(policy, 2, day, b) * rate;
    }

    private int premium(int policy, int before, int b) {
        int charges = 0;
        for (int day = 0; day <= 999 && day < before; day++) {
            charges += charge(policy, day, b);
        }
        return down(charges, 1000);
    }

    private void post(int amount, int from, int to) {
        if (amount != 0) {
            journal.add(amount > 0 ? new Posting(from, to, amount) : new Posting(to, from, -amount));
        }
    }

    private void tooMany(int before) {
        while (journal.size() > before) {
            journal.remove(journal.size() - 1);
        }
        throw new UnsupportedOperationException();
    }

    private static int posting(Posting p, int what) {
        return what == 0 ? p.from() : what == 1 ? p.to() : p.amount();
    }

    private int balance(int account) {
        int sum = 0;
        for (Posting p : journal) {
            sum += p.to() == account ? p.amount() : 0;
            sum -= p.from() == account ? p.amount() : 0;
        }
        return sum;
    }

    private int known(int policy) {
        return out(policy, 0, policies.size() - 1) ? none() : policy;
    }

    private static boolean element(int size, int figures, int[] a) {
        return !out(a[0], 0, size - 1) && !out(a[1], 0, figures - 1);
    }

    private static boolean out(int number, int least, int greatest) {
        return number < least || number > greatest;
    }

    private static int least(int a, int b, int c) {
        return a <= b && a <= c ? a : b <= c ? b : c;
    }

    private static int down(int amount, int by) {
        int quotient = amount / by;
        return quotient * by > amount ? quotient - 1 : quotient;
    }

    private static void state(boolean wrong) {
        if (wrong) {
            throw new IllegalStateException();
        }
    }

    private static void argument(boolean wrong) {
        if (wrong) {
            throw new IllegalArgumentException();
        }
    }

    private static int none() {
        throw new NoSuchElementException();
    }
}
