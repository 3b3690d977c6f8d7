import java.util.Arrays;
import java.util.List;
import java.util.Random;

/**
 * Each cent of a debt ends somewhere, and so does each cent that somebody pays; and no call ever throws
 * but what the document says of it. Runs of calls with any arguments, good, odd and at the ends of their
 * types, are added up at their end. The runs are the same each time.
 */
public final class DebtRowsEveryCent {
    private interface Call {
        long answer();
    }

    private static final int RUNS = 3000;
    private static final int MOST_CALLS = 512;
    private static final int CHANGES = 280;
    // So many that all questions at the end of a run still belong to its 512 calls.
    private static final int DEBTS = 12;
    private static final int PEOPLE = 16;
    private static final int PAID = 4;
    private static final long THREW = Long.MIN_VALUE;

    private static final int[] ODD = {Integer.MIN_VALUE, Integer.MIN_VALUE + 1, -100001, -2, -1, 0, 1, 2, 4, 5, 8,
            12, 13, 15, 16, 19, 20, 35, 36, 40, 41, 1000, 1001, 99999, 100000, 100001, 1000000000, 1000000001,
            Integer.MAX_VALUE - 1, Integer.MAX_VALUE};
    private static final List<String> NO_EXCEPTION = List.of();
    private static final List<String> ARGUMENT = List.of("IllegalArgumentException");
    private static final List<String> INDEX = List.of("IndexOutOfBoundsException");
    private static final List<String> OF_DEBT = List.of("IllegalArgumentException", "IllegalStateException");
    private static final List<String> OF_RATE =
            List.of("ArithmeticException", "IllegalArgumentException", "IllegalStateException");

    private static int wrong = 0;

    private final int run;
    private final Random dice;
    private final DebtRows rows = new DebtRows();
    private int calls = 0;
    private int today = 0;
    private int debts = 0;
    private long paidIn = 0;

    private DebtRowsEveryCent(int run) {
        this.run = run;
        this.dice = new Random(run);
    }

    private void tell(String what) {
        wrong++;
        if (wrong <= 20) {
            System.out.println("run " + run + ": " + what);
        }
    }

    private void is(String what, long want, long got) {
        if (got != want) {
            tell(what + " is " + got + ", due is " + want);
        }
    }

    /** The answer, or THREW; only these exceptions may come, and none that the machine throws. */
    private long call(List<String> mayThrow, Call made, Object... words) {
        calls++;
        if (calls > MOST_CALLS) {
            tell("this test makes more calls than the document lets it");
        }
        try {
            return made.answer();
        } catch (RuntimeException thrown) {
            if (!mayThrow.contains(thrown.getClass().getSimpleName()) || "/ by zero".equals(thrown.getMessage())) {
                tell(Arrays.toString(words) + " threw " + thrown);
            }
            return THREW;
        }
    }

    private int odd(int usual) {
        return dice.nextInt(12) == 0 ? ODD[dice.nextInt(ODD.length)] : usual;
    }

    private int below(int bound) {
        return dice.nextInt(Math.max(1, bound));
    }

    private int aDebt() {
        return odd(1 + below(debts));
    }

    private int aPerson() {
        return odd(below(6));
    }

    private long cents() {
        if (dice.nextInt(40) == 0) {
            return dice.nextBoolean() ? Long.MIN_VALUE + below(3) : Long.MAX_VALUE - below(3);
        }
        return odd(1 + below(dice.nextBoolean() ? 50 : 50000));
    }

    private void change() {
        int debt = aDebt();
        int who = aPerson();
        boolean forDebtor = below(3) == 0;
        long sum = cents();
        int n = odd(2 + below(11));
        int day = below(60) == 0 ? odd(today) : today + below(below(12) == 0 ? 400 : 20);
        switch (below(14)) {
            case 0:
                int down = odd(1 + below(100));
                int up = odd(below(down));
                call(OF_RATE, () -> rows.rate(day, up, down), "rate", day, up, down);
                break;
            case 1:
            case 2:
                born(sum, who);
                break;
            case 3:
                call(NO_EXCEPTION, () -> rows.debtor(debt, who) ? 1 : 0, "debtor", debt, who);
                break;
            case 4:
            case 5:
                call(ARGUMENT, () -> rows.notified(debt), "notified", debt);
                break;
            case 6:
            case 7:
            case 8:
                paid(who, sum);
                break;
            case 9:
                call(ARGUMENT, () -> rows.instalments(debt, n), "instalments", debt, n);
                break;
            case 10:
                call(ARGUMENT, () -> rows.appeal(debt), "appeal", debt);
                break;
            case 11:
                call(ARGUMENT, () -> rows.decide(debt, forDebtor), "decide", debt, forDebtor);
                break;
            default:
                ticked(day);
                break;
        }
    }

    private void born(long cents, int who) {
        if (debts < DEBTS && call(OF_DEBT, () -> rows.debt(cents, who), "debt", cents, who) != THREW) {
            debts++;
        }
    }

    private void paid(int who, long cents) {
        if (call(ARGUMENT, () -> rows.pay(who, cents), "pay", who, cents) != THREW) {
            paidIn += cents;
        }
    }

    private void ticked(int day) {
        if (call(ARGUMENT, () -> rows.tick(day), "tick", day) != THREW) {
            today = day;
        }
    }

    private void ask() {
        int debt = aDebt();
        int who = aPerson();
        int side = odd(below(6));
        int what = odd(below(40));
        call(ARGUMENT, () -> rows.due(debt, side), "due", debt, side);
        call(ARGUMENT, () -> rows.recourse(debt, who, side), "recourse", debt, who, side);
        call(INDEX, () -> rows.look(debt, what), "look", debt, what);
        call(NO_EXCEPTION, () -> rows.sum(what), "sum", what);
    }

    private long due(int debt, int side) {
        return call(NO_EXCEPTION, () -> rows.due(debt, side), "due", debt, side);
    }

    private int look(int debt, int what) {
        return (int) call(NO_EXCEPTION, () -> rows.look(debt, what), "look", debt, what);
    }

    private long recourse(int debt, int who, int side) {
        return call(NO_EXCEPTION, () -> rows.recourse(debt, who, side), "recourse", debt, who, side);
    }

    private long sum(int what) {
        return call(NO_EXCEPTION, () -> rows.sum(what), "sum", what);
    }

    /** What this debt adds to sum(0) .. sum(4). */
    private long[] addUp(int debt) {
        long[] all = {due(debt, 2), due(debt, 0), 0, due(debt, 3), due(debt, 4)};
        long shares = 0;
        int debtors = look(debt, 3);
        for (int i = 0; i < debtors; i++) {
            int who = look(debt, 4 + i);
            long share = recourse(debt, who, 1);
            long paid = recourse(debt, who, 0);
            is("recourse of " + who + " of debt " + debt, Math.max(0, paid - share), recourse(debt, who, 2));
            shares += share;
            all[2] += paid;
        }
        is("the shares of debt " + debt, all[0], shares);
        is("what is open, paid and lost of debt " + debt, all[0], all[1] + all[2] + all[3]);
        int state = look(debt, 0);
        is("whether debt " + debt + " may have something open", state < PAID ? 1 : 0, all[1] > 0 ? 1 : 0);
        is("whether debt " + debt + " may have lost something", state > PAID ? 1 : 0, all[3] > 0 ? 1 : 0);
        return all;
    }

    private void addUpAll() {
        long[] all = new long[5];
        for (int debt = 1; debt <= debts; debt++) {
            long[] some = addUp(debt);
            for (int i = 0; i < all.length; i++) {
                all[i] += some[i];
            }
        }
        for (int i = 0; i < all.length; i++) {
            is("sum(" + i + ")", all[i], sum(i));
        }
        is("debts", debts, sum(5));
        is("today", today, sum(6));
        long credit = 0;
        for (int who = 0; who < PEOPLE; who++) {
            credit += sum(20 + who);
        }
        is("what was paid, of debts and interest and as credit", paidIn, all[2] + all[4] + credit);
    }

    public static void main(String[] args) {
        for (int run = 1; run <= RUNS && wrong == 0; run++) {
            DebtRowsEveryCent one = new DebtRowsEveryCent(run);
            while (one.calls < CHANGES) {
                if (one.below(12) == 0) {
                    one.ask();
                } else {
                    one.change();
                }
            }
            one.addUpAll();
        }
        System.out.println(wrong == 0 ? "each cent ends somewhere" : wrong + " answers are not as due");
        if (wrong != 0) {
            System.exit(1);
        }
    }
}
