/**
 * Debts from birth to end: notified or fallen, with interest by dated rates, joint debtors,
 * instalments, appeals and payments. ../shared/DOC.md tells what each call promises.
 */
public final class DebtRows {
    public static final int NONE = -1;

    private static final int LAST_DAY = 100000;
    private static final int PEOPLE = 16;
    private static final int MOST_DEBTS = 40;
    private static final int MOST_DEBTORS = 4;
    private static final int MOST_RATES = 20;
    private static final int MOST_DOWN = 1000;
    private static final long MOST_CENTS = 1000000000L;
    private static final int YEAR = 365;
    private static final int DAYS_TO_NOTIFY = 1095;
    private static final int DAYS_TO_DUE = 10;
    private static final int DAYS_OF_INSTALMENT = 30;
    private static final int LEAST_INSTALMENTS = 2;
    private static final int MOST_INSTALMENTS = 12;
    private static final long SMALL_SUM = 10;
    private static final int FIRST_DEBTOR = 4;
    private static final int FIRST_CREDIT = 20;

    private static final int BORN = 0;
    private static final int NOTIFIED = 1;
    private static final int DEFERRED = 2;
    private static final int SUSPENDED = 3;
    private static final int PAID = 4;
    private static final int REMITTED = 5;
    private static final int FALLEN = 6;
    private static final int WRITTEN_OFF = 7;

    private final Rates rates;
    private final Debt[] debts;
    private final long[] credit;
    private int debtCount;
    private int today;

    public DebtRows() {
        rates = new Rates();
        debts = new Debt[MOST_DEBTS];
        credit = new long[PEOPLE];
        debtCount = 0;
        today = 0;
    }

    public int rate(int from, int up, int down)
            throws ArithmeticException, IllegalArgumentException, IllegalStateException {
        if (down == 0) {
            throw new ArithmeticException("down is 0");
        }
        if (from <= today || from < rates.latestDay() || from > LAST_DAY) {
            throw new IllegalArgumentException("no such day for a rate");
        }
        if (down < 0 || down > MOST_DOWN || up < 0 || up > down) {
            throw new IllegalArgumentException("no such rate");
        }
        if (rates.count >= MOST_RATES) {
            throw new IllegalStateException("no more rates");
        }
        rates.append(from, up, down);
        return rates.count;
    }

    public int debt(long cents, int who) throws IllegalArgumentException, IllegalStateException {
        if (!isSum(cents)) {
            throw new IllegalArgumentException("no such sum");
        }
        if (!isPerson(who)) {
            throw new IllegalArgumentException("no such person");
        }
        if (debtCount >= MOST_DEBTS) {
            throw new IllegalStateException("no more debts");
        }
        Debt born = new Debt(cents, today);
        born.join(who);
        debts[debtCount] = born;
        debtCount++;
        return debtCount;
    }

    public boolean debtor(int debt, int who) {
        Debt found = find(debt);
        if (found == null || !isPerson(who)) {
            return false;
        }
        return found.state == BORN && found.join(who);
    }

    public int notified(int debt) throws IllegalArgumentException {
        Debt found = findOrRefuse(debt);
        if (found.state != BORN || found.isTooLate(today)) {
            return 0;
        }
        found.dueDay = today + DAYS_TO_DUE;
        found.runAgain(today);
        return found.dueDay;
    }

    public int pay(int who, long cents) throws IllegalArgumentException {
        if (!isPerson(who)) {
            throw new IllegalArgumentException("no such person");
        }
        if (!isSum(cents)) {
            throw new IllegalArgumentException("no such sum");
        }
        long left = cents;
        int touched = 0;
        for (int i = 0; i < debtCount && left > 0; i++) {
            Debt each = debts[i];
            if (each != null && each.isPayable() && each.placeOf(who) != NONE) {
                each.fixInterest(rates, today);
                left -= each.take(each.placeOf(who), left);
                touched++;
            }
        }
        credit[who] += left;
        return touched;
    }

    public int instalments(int debt, int n) throws IllegalArgumentException {
        Debt found = findOrRefuse(debt);
        if (n < LEAST_INSTALMENTS || n > MOST_INSTALMENTS) {
            throw new IllegalArgumentException("no such number of instalments");
        }
        if (found.state != NOTIFIED) {
            return 0;
        }
        found.fixInterest(rates, today);
        found.defer(today, n);
        return 1;
    }

    public int appeal(int debt) throws IllegalArgumentException {
        Debt found = findOrRefuse(debt);
        if (!found.isPayable()) {
            return 0;
        }
        found.fixInterest(rates, today);
        found.state = SUSPENDED;
        return 1;
    }

    public long decide(int debt, boolean forDebtor) throws IllegalArgumentException {
        Debt found = findOrRefuse(debt);
        if (found.state != SUSPENDED) {
            return NONE;
        }
        if (!forDebtor) {
            found.runAgain(today);
            return 0;
        }
        found.lose(REMITTED);
        return found.lost;
    }

    public int tick(int day) throws IllegalArgumentException {
        if (day < today || day > LAST_DAY) {
            throw new IllegalArgumentException("no such day");
        }
        today = day;
        int ended = 0;
        for (int i = 0; i < debtCount; i++) {
            Debt each = debts[i];
            if (each != null && each.endsBy(day)) {
                ended++;
            }
        }
        return ended;
    }

    public long due(int debt, int side) throws IllegalArgumentException {
        Debt found = findOrRefuse(debt);
        switch (side) {
            case 0:
                return found.open;
            case 1:
                return found.fixedInterest + found.runningInterest(rates, today);
            case 2:
                return found.cents;
            case 3:
                return found.lost;
            case 4:
                return found.paidInterest;
            default:
                throw new IllegalArgumentException("no such side");
        }
    }

    public long recourse(int debt, int who, int side) throws IllegalArgumentException {
        Debt found = findOrRefuse(debt);
        int place = found.placeOf(who);
        if (place == NONE) {
            throw new IllegalArgumentException("no debtor of this debt");
        }
        switch (side) {
            case 0:
                return found.paidBy(place);
            case 1:
                return found.shareOf(place);
            case 2:
                return Math.max(0L, found.paidBy(place) - found.shareOf(place));
            default:
                throw new IllegalArgumentException("no such side");
        }
    }

    public int look(int debt, int what) throws IndexOutOfBoundsException {
        Debt found = find(debt);
        if (found == null) {
            throw new IndexOutOfBoundsException("no such debt");
        }
        switch (what) {
            case 0:
                return found.state;
            case 1:
                return found.birth;
            case 2:
                return found.dueDay;
            case 3:
                return found.debtors;
            default:
                break;
        }
        if (what < FIRST_DEBTOR || what >= FIRST_DEBTOR + found.debtors) {
            throw new IndexOutOfBoundsException("nothing to look at");
        }
        return found.personAt(what - FIRST_DEBTOR);
    }

    public long sum(int what) {
        if (what >= FIRST_CREDIT && what < FIRST_CREDIT + PEOPLE) {
            return credit[what - FIRST_CREDIT];
        }
        switch (what) {
            case 0:
            case 1:
            case 2:
            case 3:
            case 4:
                return overAllDebts(what);
            case 5:
                return debtCount;
            case 6:
                return today;
            case 7:
                return rates.count;
            default:
                return NONE;
        }
    }

    private long overAllDebts(int what) {
        long total = 0;
        for (int i = 0; i < debtCount; i++) {
            Debt each = debts[i];
            if (each != null) {
                total += each.part(what);
            }
        }
        return total;
    }

    private Debt find(int number) {
        if (number < 1 || number > debtCount) {
            return null;
        }
        return debts[number - 1];
    }

    private Debt findOrRefuse(int number) {
        Debt found = find(number);
        if (found == null) {
            throw new IllegalArgumentException("no such debt");
        }
        return found;
    }

    private static boolean isPerson(int who) {
        return who >= 0 && who < PEOPLE;
    }

    private static boolean isSum(long cents) {
        return cents >= 1 && cents <= MOST_CENTS;
    }

    /** The rows of rates in the order in which they were told, which is also that of their days. */
    private static final class Rates {
        final int[] from;
        final int[] up;
        final int[] down;
        int count;

        Rates() {
            from = new int[MOST_RATES];
            up = new int[MOST_RATES];
            down = new int[MOST_RATES];
            count = 0;
        }

        int latestDay() {
            return count < 1 ? 0 : from[count - 1];
        }

        void append(int day, int upper, int lower) {
            if (count >= MOST_RATES) {
                return;
            }
            from[count] = day;
            up[count] = upper;
            down[count] = lower;
            count++;
        }

        /**
         * Each row is rounded down by itself. A row that another one from the same day replaces
         * ends on the day before it starts, and so has no days.
         */
        long interest(long open, int behind, int upTo) {
            long total = 0;
            for (int i = 0; i < count; i++) {
                int first = Math.max(from[i], behind + 1);
                int last = i + 1 < count ? Math.min(upTo, from[i + 1] - 1) : upTo;
                if (first <= last && down[i] > 0) {
                    long days = last - first + 1;
                    total += open * days * up[i] / ((long) down[i] * YEAR);
                }
            }
            return total;
        }
    }

    /** One debt, with what each of its debtors paid of what was open. */
    private static final class Debt {
        final long cents;
        final int birth;
        final int[] people;
        final long[] paid;
        int debtors;
        int state;
        int dueDay;
        int interestBehind;
        long open;
        long lost;
        long fixedInterest;
        long paidInterest;
        int deferralDay;
        int deferralParts;
        long deferralOpen;

        Debt(long cents, int birth) {
            this.cents = cents;
            this.birth = birth;
            people = new int[MOST_DEBTORS];
            paid = new long[MOST_DEBTORS];
            state = BORN;
            dueDay = NONE;
            open = cents;
        }

        boolean join(int who) {
            if (debtors >= MOST_DEBTORS || placeOf(who) != NONE) {
                return false;
            }
            people[debtors] = who;
            debtors++;
            return true;
        }

        int placeOf(int who) {
            for (int i = 0; i < debtors; i++) {
                if (people[i] == who) {
                    return i;
                }
            }
            return NONE;
        }

        boolean hasPlace(int place) {
            return place >= 0 && place < debtors;
        }

        int personAt(int place) {
            return hasPlace(place) ? people[place] : NONE;
        }

        long paidBy(int place) {
            return hasPlace(place) ? paid[place] : 0;
        }

        long shareOf(int place) {
            if (debtors < 1) {
                return 0;
            }
            return cents / debtors + (place < cents % debtors ? 1 : 0);
        }

        boolean isPayable() {
            return state == NOTIFIED || state == DEFERRED;
        }

        boolean isTooLate(int day) {
            return day - birth > DAYS_TO_NOTIFY;
        }

        void runAgain(int day) {
            state = NOTIFIED;
            interestBehind = Math.max(dueDay, day);
        }

        long runningInterest(Rates rates, int today) {
            return state == NOTIFIED ? rates.interest(open, interestBehind, today) : 0;
        }

        void fixInterest(Rates rates, int today) {
            fixedInterest += runningInterest(rates, today);
            interestBehind = Math.max(interestBehind, today);
        }

        /** Pays from the money as far as it goes; the interest has been fixed before. */
        long take(int place, long money) {
            if (!hasPlace(place)) {
                return 0;
            }
            long ofInterest = Math.min(money, fixedInterest);
            long ofOpen = Math.min(money - ofInterest, open);
            fixedInterest -= ofInterest;
            paidInterest += ofInterest;
            open -= ofOpen;
            paid[place] += ofOpen;
            settle();
            return ofInterest + ofOpen;
        }

        void settle() {
            if (fixedInterest > 0 || open > SMALL_SUM) {
                return;
            }
            if (open == 0) {
                state = PAID;
            } else {
                lose(WRITTEN_OFF);
            }
        }

        void lose(int endState) {
            state = endState;
            lost = open;
            open = 0;
        }

        void defer(int day, int parts) {
            state = DEFERRED;
            deferralDay = day;
            deferralParts = parts;
            deferralOpen = open;
        }

        /** Whether it falls, or its deferral ends, as days go by up to this one. */
        boolean endsBy(int day) {
            if (state == BORN && isTooLate(day)) {
                lose(FALLEN);
                return true;
            }
            if (state != DEFERRED) {
                return false;
            }
            int missed = firstMissedDay();
            if (missed >= day) {
                return false;
            }
            runAgain(missed + 1);
            return true;
        }

        /** The first day by whose end more is open than may be, if nothing more is paid. */
        int firstMissedDay() {
            int k = 1;
            while (k < deferralParts && open <= mayBeOpen(k)) {
                k++;
            }
            return deferralDay + DAYS_OF_INSTALMENT * k;
        }

        long mayBeOpen(int k) {
            return deferralParts < 1 ? 0 : deferralOpen * (deferralParts - k) / deferralParts;
        }

        long part(int what) {
            switch (what) {
                case 0:
                    return cents;
                case 1:
                    return open;
                case 2:
                    return cents - open - lost;
                case 3:
                    return lost;
                default:
                    return paidInterest;
            }
        }
    }
}
