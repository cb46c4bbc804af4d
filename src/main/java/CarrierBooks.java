import java.util.NoSuchElementException;

/** The books of an insurer: plan, policies, premium, claims, reinsurance and journal. */
public final class CarrierBooks {
    private static final int DAYS = 1000;
    private static final int LAST_AGE = 49;
    private static final int LAST_ZONE = 9;
    private static final int MAX_RATE = 99;
    private static final int MAX_LENGTH = 200;
    private static final int MAX_SUM = 999;
    private static final int MAX_QUOTA = 90;
    private static final int MAX_DEDUCTIBLE = 999;
    private static final int MAX_AMOUNT = 9999;
    private static final int MAX_TIMES = 3;
    private static final int MAX_PRICE = 99;

    private static final int MAX_ROWS = 8;
    private static final int MAX_POLICIES = 6;
    private static final int MAX_BOOKINGS = 40;
    private static final int MAX_POSTINGS = 90;
    private static final int MAX_CLAIMS = 20;

    private static final int AGE = 0;
    private static final int ZONE = 1;
    private static final int SUM = 2;
    /** Being in force is kept as one fact more: a CANCEL tells 0 of it, a REINSTATE 1. */
    private static final int FORCE = 3;
    private static final int CHARGE = 4;
    private static final int KEPT_FACTS = 4;
    /** What a BIND is kept with: its facts stand with the policy. */
    private static final int NO_FACT = -1;

    private static final int PREMIUM = 0;
    private static final int HOLDERS = 1;
    private static final int CEDED = 2;
    private static final int REINSURERS = 3;
    private static final int CLAIMS = 4;
    private static final int RECOVERIES = 5;
    private static final int FEES = 6;
    private static final int ACCOUNTS = 7;

    private static final int POSTING_FIGURES = 3;
    private static final int CLAIM_FIGURES = 6;

    private final Plan plan;
    private final Register register;
    private final Settlements settlements;
    private final Journal journal;
    private int quotaPercent;

    public CarrierBooks() {
        plan = new Plan();
        register = new Register();
        settlements = new Settlements();
        journal = new Journal();
    }

    public int row(int ageFrom, int ageTo, int zoneFrom, int zoneTo, int rate)
            throws IllegalStateException, IllegalArgumentException {
        if (isPlanClosed() || plan.size == MAX_ROWS) {
            throw new IllegalStateException();
        }
        if (!isSpan(ageFrom, ageTo, LAST_AGE) || !isSpan(zoneFrom, zoneTo, LAST_ZONE)
                || !isWithin(1, rate, MAX_RATE)) {
            throw new IllegalArgumentException();
        }
        return plan.add(ageFrom, ageTo, zoneFrom, zoneTo, rate);
    }

    public void undo() throws IllegalStateException {
        if (isPlanClosed() || plan.size == 0) {
            throw new IllegalStateException();
        }
        plan.dropLatest();
    }

    public int witness() {
        return plan.firstFault();
    }

    public void quota(int q) throws IllegalStateException, IllegalArgumentException {
        if (register.policies > 0) {
            throw new IllegalStateException();
        }
        if (!isWithin(0, q, MAX_QUOTA)) {
            throw new IllegalArgumentException();
        }
        quotaPercent = q;
    }

    public void terms(int deductible, int limit, int aggregate)
            throws IllegalStateException, IllegalArgumentException {
        if (settlements.size > 0) {
            throw new IllegalStateException();
        }
        if (!isWithin(0, deductible, MAX_DEDUCTIBLE) || !isWithin(1, limit, MAX_AMOUNT)
                || !isWithin(1, aggregate, MAX_AMOUNT)) {
            throw new IllegalArgumentException();
        }
        settlements.setTerms(deductible, limit, aggregate);
    }

    public void layer(int retention, int layer, int times, int price)
            throws IllegalStateException, IllegalArgumentException {
        if (settlements.size > 0) {
            throw new IllegalStateException();
        }
        if (!isWithin(0, retention, MAX_AMOUNT) || !isWithin(0, layer, MAX_AMOUNT)
                || !isWithin(0, times, MAX_TIMES) || !isWithin(0, price, MAX_PRICE)) {
            throw new IllegalArgumentException();
        }
        settlements.setLayer(retention, layer, times, price);
    }

    public int bind(int start, int length, int age, int zone, int sum)
            throws IllegalStateException, IllegalArgumentException, UnsupportedOperationException {
        if (!isPlanGood() || register.policies == MAX_POLICIES || register.isFull()) {
            throw new IllegalStateException();
        }
        if (!isDay(start) || !isWithin(1, length, MAX_LENGTH) || !isValueOf(AGE, age)
                || !isValueOf(ZONE, zone) || !isValueOf(SUM, sum)) {
            throw new IllegalArgumentException();
        }
        int policy = register.policies;
        register.pencilBind(start, length, age, zone, sum);
        postPremium(policy, false);
        register.confirmBind();
        return policy;
    }

    public int change(int policy, int day, int fact, int value)
            throws NoSuchElementException, IllegalArgumentException, IllegalStateException,
            UnsupportedOperationException {
        if (!isPolicy(policy) || !isWithin(AGE, fact, SUM)) {
            throw new NoSuchElementException();
        }
        if (!register.isInTerm(policy, day) || !isValueOf(fact, value)) {
            throw new IllegalArgumentException();
        }
        if (!register.isInForce(policy, day) || register.isFull()) {
            throw new IllegalStateException();
        }
        return book(policy, day, fact, value, false);
    }

    public int cancel(int policy, int day, boolean shortly)
            throws NoSuchElementException, IllegalArgumentException, IllegalStateException,
            UnsupportedOperationException {
        if (!isPolicy(policy)) {
            throw new NoSuchElementException();
        }
        if (!register.isInTerm(policy, day)) {
            throw new IllegalArgumentException();
        }
        if (!register.isInForce(policy, day) || register.isFull()) {
            throw new IllegalStateException();
        }
        return book(policy, day, FORCE, 0, shortly);
    }

    public int reinstate(int policy, int day)
            throws NoSuchElementException, IllegalArgumentException, IllegalStateException,
            UnsupportedOperationException {
        if (!isPolicy(policy)) {
            throw new NoSuchElementException();
        }
        if (!register.isInTerm(policy, day)) {
            throw new IllegalArgumentException();
        }
        if (register.isInForce(policy, day) || register.isFull()) {
            throw new IllegalStateException();
        }
        return book(policy, day, FORCE, 1, false);
    }

    public int claim(int policy, int day, int loss)
            throws NoSuchElementException, IllegalArgumentException, IllegalStateException,
            UnsupportedOperationException {
        if (!isPolicy(policy)) {
            throw new NoSuchElementException();
        }
        if (!isDay(day) || !isWithin(1, loss, MAX_AMOUNT)) {
            throw new IllegalArgumentException();
        }
        if (!register.isInForce(policy, day) || settlements.size == MAX_CLAIMS) {
            throw new IllegalStateException();
        }
        int paid = settlements.payable(policy, loss);
        int quotaPart = percentOf(paid, quotaPercent);
        int layerPart = settlements.layerPartOf(paid - quotaPart);
        int renewed = settlements.renewedOf(layerPart);
        postClaim(paid, quotaPart + layerPart, percentOf(renewed, settlements.price));
        settlements.keep(policy, day, paid, quotaPart, layerPart, renewed);
        return paid;
    }

    public int count(int what) {
        switch (what) {
            case 0: return register.policies;
            case 1: return register.bookings;
            case 2: return settlements.size;
            case 3: return journal.size;
            case 4: return plan.size;
            default: return -1;
        }
    }

    public int fact(int policy, int fact, int day, int b) throws NoSuchElementException {
        if (!isPolicy(policy) || !isWithin(AGE, fact, CHARGE)) {
            throw new NoSuchElementException();
        }
        int counted = register.countedAsOf(b);
        if (!register.isInTerm(policy, day) || !register.isBound(policy, counted)) {
            return -1;
        }
        return fact == CHARGE
                ? register.chargeOn(plan, policy, day, counted)
                : register.valueOn(policy, fact, day, counted);
    }

    public int written(int policy, int b) throws NoSuchElementException {
        if (!isPolicy(policy)) {
            throw new NoSuchElementException();
        }
        return register.premiumBefore(plan, policy, DAYS, register.countedAsOf(b));
    }

    public int earned(int policy, int day, int b) throws NoSuchElementException {
        if (!isPolicy(policy)) {
            throw new NoSuchElementException();
        }
        return register.premiumBefore(plan, policy, day, register.countedAsOf(b));
    }

    public int settled(int k, int what) throws NoSuchElementException {
        if (!isIndex(k, settlements.size) || !isIndex(what, CLAIM_FIGURES)) {
            throw new NoSuchElementException();
        }
        return settlements.figures[k * CLAIM_FIGURES + what];
    }

    public int posting(int k, int what) throws NoSuchElementException {
        if (!isIndex(k, journal.size) || !isIndex(what, POSTING_FIGURES)) {
            throw new NoSuchElementException();
        }
        return journal.figures[k * POSTING_FIGURES + what];
    }

    public int balance(int account) throws NoSuchElementException {
        if (!isIndex(account, ACCOUNTS)) {
            throw new NoSuchElementException();
        }
        return journal.balances[account];
    }

    private boolean isPlanClosed() {
        return register.policies > 0;
    }

    /** A closed plan was good when it was closed and has not changed since. */
    private boolean isPlanGood() {
        return isPlanClosed() || plan.firstFault() == -1;
    }

    private boolean isPolicy(int policy) {
        return isIndex(policy, register.policies);
    }

    private int book(int policy, int day, int fact, int value, boolean isShort) {
        register.pencil(policy, day, fact, value);
        postPremium(policy, isShort);
        return register.confirm();
    }

    /** Posts for the booking in pencil; it counts only when this has not thrown. */
    private void postPremium(int policy, boolean isShort) {
        int before = register.bookings;
        int difference = register.premiumBefore(plan, policy, DAYS, before + 1)
                - register.premiumBefore(plan, policy, DAYS, before);
        int ceded = percentOf(difference, quotaPercent);
        int fee = isShort && difference < 0 ? -difference / 10 : 0;
        if (!journal.hasRoomFor(difference, ceded, fee)) {
            throw new UnsupportedOperationException();
        }
        journal.post(difference, PREMIUM, HOLDERS);
        journal.post(ceded, REINSURERS, CEDED);
        journal.post(fee, FEES, HOLDERS);
    }

    private void postClaim(int paid, int recovered, int renewalPrice) {
        if (!journal.hasRoomFor(paid, recovered, renewalPrice)) {
            throw new UnsupportedOperationException();
        }
        journal.post(paid, HOLDERS, CLAIMS);
        journal.post(recovered, RECOVERIES, REINSURERS);
        journal.post(renewalPrice, REINSURERS, CEDED);
    }

    private static int percentOf(int amount, int percent) {
        return Math.floorDiv(amount * percent, 100);
    }

    private static boolean isWithin(int least, int number, int greatest) {
        return least <= number && number <= greatest;
    }

    private static boolean isSpan(int from, int to, int greatest) {
        return 0 <= from && from <= to && to <= greatest;
    }

    private static boolean isIndex(int index, int size) {
        return 0 <= index && index < size;
    }

    private static boolean isDay(int day) {
        return isIndex(day, DAYS);
    }

    private static boolean isValueOf(int fact, int value) {
        switch (fact) {
            case AGE: return isWithin(0, value, LAST_AGE);
            case ZONE: return isWithin(0, value, LAST_ZONE);
            case SUM: return isWithin(1, value, MAX_SUM);
            default: return false;
        }
    }

    /** The plan of rates. */
    private static final class Plan {
        private final int[] ageFrom = new int[MAX_ROWS];
        private final int[] ageTo = new int[MAX_ROWS];
        private final int[] zoneFrom = new int[MAX_ROWS];
        private final int[] zoneTo = new int[MAX_ROWS];
        private final int[] rate = new int[MAX_ROWS];
        private int size;

        private int add(int fromAge, int toAge, int fromZone, int toZone, int newRate) {
            ageFrom[size] = fromAge;
            ageTo[size] = toAge;
            zoneFrom[size] = fromZone;
            zoneTo[size] = toZone;
            rate[size] = newRate;
            size++;
            return size - 1;
        }

        private void dropLatest() {
            size--;
        }

        private int firstFault() {
            for (int age = 0; age <= LAST_AGE; age++) {
                for (int zone = 0; zone <= LAST_ZONE; zone++) {
                    if (matches(age, zone) != 1) {
                        return 10 * age + zone;
                    }
                }
            }
            return -1;
        }

        private int matches(int age, int zone) {
            int found = 0;
            for (int r = 0; r < size; r++) {
                if (isMatch(r, age, zone)) {
                    found++;
                }
            }
            return found;
        }

        private int rateOf(int age, int zone) {
            for (int r = 0; r < size; r++) {
                if (isMatch(r, age, zone)) {
                    return rate[r];
                }
            }
            return 0;
        }

        private boolean isMatch(int r, int age, int zone) {
            return ageFrom[r] <= age && age <= ageTo[r] && zoneFrom[r] <= zone && zone <= zoneTo[r];
        }
    }

    /**
     * The policies and their bookings. A booking is first kept in pencil, behind those that
     * count, so that its premium can be reckoned before it is sure that it may be booked.
     * COUNTED is the number of bookings that count, from the first one on.
     */
    private static final class Register {
        private final int[] start = new int[MAX_POLICIES];
        private final int[] end = new int[MAX_POLICIES];
        private final int[] boundBy = new int[MAX_POLICIES];
        private final int[] firstFacts = new int[MAX_POLICIES * KEPT_FACTS];
        private int policies;
        private final int[] policyOf = new int[MAX_BOOKINGS];
        private final int[] dayOf = new int[MAX_BOOKINGS];
        private final int[] factOf = new int[MAX_BOOKINGS];
        private final int[] valueOf = new int[MAX_BOOKINGS];
        private int bookings;

        private boolean isFull() {
            return bookings == MAX_BOOKINGS;
        }

        private void pencilBind(int from, int length, int age, int zone, int sum) {
            start[policies] = from;
            end[policies] = Math.min(from + length, DAYS);
            boundBy[policies] = bookings;
            int first = policies * KEPT_FACTS;
            firstFacts[first + AGE] = age;
            firstFacts[first + ZONE] = zone;
            firstFacts[first + SUM] = sum;
            firstFacts[first + FORCE] = 1;
            pencil(policies, from, NO_FACT, 0);
        }

        private void confirmBind() {
            policies++;
            bookings++;
        }

        private void pencil(int policy, int day, int fact, int value) {
            policyOf[bookings] = policy;
            dayOf[bookings] = day;
            factOf[bookings] = fact;
            valueOf[bookings] = value;
        }

        private int confirm() {
            bookings++;
            return bookings - 1;
        }

        private int countedAsOf(int b) {
            return Math.max(0, Math.min(b, bookings - 1) + 1);
        }

        private boolean isBound(int policy, int counted) {
            return boundBy[policy] < counted;
        }

        private boolean isInTerm(int policy, int day) {
            return start[policy] <= day && day < end[policy];
        }

        private boolean isInForce(int policy, int day) {
            return isInTerm(policy, day) && valueOn(policy, FORCE, day, bookings) == 1;
        }

        private int valueOn(int policy, int fact, int day, int counted) {
            int since = start[policy];
            int value = firstFacts[policy * KEPT_FACTS + fact];
            for (int b = boundBy[policy] + 1; b < counted; b++) {
                if (policyOf[b] == policy && factOf[b] == fact
                        && isWithin(since, dayOf[b], day)) {
                    since = dayOf[b];
                    value = valueOf[b];
                }
            }
            return value;
        }

        private int chargeOn(Plan plan, int policy, int day, int counted) {
            if (valueOn(policy, FORCE, day, counted) == 0) {
                return 0;
            }
            int age = valueOn(policy, AGE, day, counted);
            int zone = valueOn(policy, ZONE, day, counted);
            return valueOn(policy, SUM, day, counted) * plan.rateOf(age, zone);
        }

        private int premiumBefore(Plan plan, int policy, int day, int counted) {
            if (!isBound(policy, counted)) {
                return 0;
            }
            int last = Math.min(day, end[policy]);
            int from = start[policy];
            int charges = 0;
            // The charge can only differ from a told day on, so there are no more spans of
            // days with one charge than bookings.
            for (int span = 0; span < counted && from < last; span++) {
                int to = Math.min(nextToldDay(policy, from, counted), last);
                charges += (to - from) * chargeOn(plan, policy, from, counted);
                from = to;
            }
            return charges / 1000;
        }

        private int nextToldDay(int policy, int day, int counted) {
            int next = end[policy];
            for (int b = boundBy[policy] + 1; b < counted; b++) {
                if (policyOf[b] == policy && dayOf[b] > day) {
                    next = Math.min(next, dayOf[b]);
                }
            }
            return next;
        }
    }

    /** The claims, and the terms that they are settled by. */
    private static final class Settlements {
        private int deductible = 0;
        private int limit = MAX_AMOUNT;
        private int aggregate = MAX_AMOUNT;
        private int retention = MAX_AMOUNT;
        private int layer = 0;
        private int times = 0;
        private int price = 0;
        private final int[] paidFor = new int[MAX_POLICIES];
        private int layerUsed;
        private int layerRenewed;
        private final int[] figures = new int[MAX_CLAIMS * CLAIM_FIGURES];
        private int size;

        private void setTerms(int newDeductible, int newLimit, int newAggregate) {
            deductible = newDeductible;
            limit = newLimit;
            aggregate = newAggregate;
        }

        private void setLayer(int newRetention, int newLayer, int newTimes, int newPrice) {
            retention = newRetention;
            layer = newLayer;
            times = newTimes;
            price = newPrice;
        }

        private int payable(int policy, int loss) {
            int left = aggregate - paidFor[policy];
            return Math.min(Math.max(loss - deductible, 0), Math.min(limit, left));
        }

        private int layerPartOf(int kept) {
            int left = layer * (1 + times) - layerUsed;
            return Math.min(Math.max(kept - retention, 0), Math.min(layer, left));
        }

        private int renewedOf(int layerPart) {
            return Math.min(layerPart, layer * times - layerRenewed);
        }

        private void keep(int policy, int day, int paid, int quotaPart, int layerPart, int renewed) {
            int first = size * CLAIM_FIGURES;
            figures[first] = policy;
            figures[first + 1] = day;
            figures[first + 2] = paid;
            figures[first + 3] = quotaPart;
            figures[first + 4] = layerPart;
            figures[first + 5] = renewed;
            size++;
            paidFor[policy] += paid;
            layerUsed += layerPart;
            layerRenewed += renewed;
        }
    }

    /** The postings, and the balances that they add up to. */
    private static final class Journal {
        private final int[] figures = new int[MAX_POSTINGS * POSTING_FIGURES];
        private final int[] balances = new int[ACCOUNTS];
        private int size;

        private boolean hasRoomFor(int first, int second, int third) {
            return size + needed(first) + needed(second) + needed(third) <= MAX_POSTINGS;
        }

        private static int needed(int amount) {
            return amount == 0 ? 0 : 1;
        }

        private void post(int amount, int from, int to) {
            if (amount > 0) {
                enter(amount, from, to);
            } else if (amount < 0) {
                enter(-amount, to, from);
            }
        }

        private void enter(int amount, int from, int to) {
            int first = size * POSTING_FIGURES;
            figures[first] = from;
            figures[first + 1] = to;
            figures[first + 2] = amount;
            size++;
            balances[from] -= amount;
            balances[to] += amount;
        }
    }
}
