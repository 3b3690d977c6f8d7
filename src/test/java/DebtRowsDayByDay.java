import java.math.BigInteger;
import java.util.ArrayList;
import java.util.List;
import java.util.Random;

/**
 * Runs of 512 calls, each answer held against a model that lives every single day and keeps every
 * stretch of interest, so that it shares no shortcut with the class. The runs are the same each time.
 */
public final class DebtRowsDayByDay {
    private static final int RUNS = 3000;
    private static final int CALLS = 512;

    /** Days one behind the other with one row, one sum open and one time of being notified. */
    private static final class Stretch {
        int row;
        int time;
        long open;
        long days;
    }

    private static final class ModelDebt {
        long cents;
        long open;
        long lost;
        long interestPaid;
        int state;
        int birth;
        int dueDay = -1;
        int runsBehind;
        int time;
        int[] limitDays = new int[0];
        long[] limits = new long[0];
        final List<Integer> debtors = new ArrayList<>();
        final long[] paidBy = new long[16];
        final List<Stretch> stretches = new ArrayList<>();
    }

    private static final class Model {
        int today;
        final List<int[]> rows = new ArrayList<>();
        final List<ModelDebt> debts = new ArrayList<>();
        final long[] credit = new long[16];

        ModelDebt at(int debt) {
            return debt >= 1 && debt <= debts.size() ? debts.get(debt - 1) : null;
        }

        ModelDebt argument(int debt) {
            ModelDebt d = at(debt);
            if (d == null) {
                throw new IllegalArgumentException();
            }
            return d;
        }

        int rowOf(int day) {
            int found = -1;
            for (int i = 0; i < rows.size(); i++) {
                if (rows.get(i)[0] <= day) {
                    found = i;
                }
            }
            return found;
        }

        long interest(ModelDebt d) {
            BigInteger all = BigInteger.ZERO;
            for (Stretch s : d.stretches) {
                int[] row = rows.get(s.row);
                all = all.add(BigInteger.valueOf(s.open).multiply(BigInteger.valueOf(s.days))
                        .multiply(BigInteger.valueOf(row[1])).divide(BigInteger.valueOf(row[2] * 365L)));
            }
            return all.longValueExact() - d.interestPaid;
        }

        void interestOfDay(ModelDebt d, int day) {
            int row = rowOf(day);
            if (d.state != 1 || day <= d.runsBehind || row < 0) {
                return;
            }
            Stretch last = d.stretches.isEmpty() ? null : d.stretches.get(d.stretches.size() - 1);
            if (last == null || last.row != row || last.time != d.time || last.open != d.open) {
                last = new Stretch();
                last.row = row;
                last.time = d.time;
                last.open = d.open;
                d.stretches.add(last);
            }
            last.days++;
        }

        void notifyOn(ModelDebt d, int day) {
            d.state = 1;
            d.time++;
            d.runsBehind = Math.max(day, d.dueDay);
        }

        void lose(ModelDebt d, int state) {
            d.state = state;
            d.lost = d.open;
            d.open = 0;
        }

        boolean dawn(ModelDebt d, int day) {
            if (d.state == 0 && day == d.birth + 1096) {
                lose(d, 6);
                return true;
            }
            if (d.state == 2) {
                for (int k = 0; k < d.limits.length; k++) {
                    if (day == d.limitDays[k] + 1 && d.open > d.limits[k]) {
                        notifyOn(d, day);
                        return true;
                    }
                }
            }
            return false;
        }

        long rate(int from, int up, int down) {
            if (down == 0) {
                throw new ArithmeticException();
            }
            boolean late = !rows.isEmpty() && from < rows.get(rows.size() - 1)[0];
            if (from <= today || late || from > 100000 || up < 0 || up > down || down < 0 || down > 1000) {
                throw new IllegalArgumentException();
            }
            if (rows.size() == 20) {
                throw new IllegalStateException();
            }
            rows.add(new int[] {from, up, down});
            return rows.size();
        }

        long debt(long cents, int who) {
            if (cents < 1 || cents > 1000000000L || who < 0 || who > 15) {
                throw new IllegalArgumentException();
            }
            if (debts.size() == 40) {
                throw new IllegalStateException();
            }
            ModelDebt d = new ModelDebt();
            d.cents = cents;
            d.open = cents;
            d.birth = today;
            d.debtors.add(who);
            debts.add(d);
            return debts.size();
        }

        long debtor(int debt, int who) {
            ModelDebt d = at(debt);
            if (d == null || who < 0 || who > 15 || d.state != 0 || d.debtors.size() == 4 || d.debtors.contains(who)) {
                return 0;
            }
            d.debtors.add(who);
            return 1;
        }

        long notified(int debt) {
            ModelDebt d = argument(debt);
            if (d.state != 0) {
                return 0;
            }
            d.dueDay = today + 10;
            notifyOn(d, today);
            return d.dueDay;
        }

        long pay(int who, long cents) {
            if (cents < 1 || cents > 1000000000L || who < 0 || who > 15) {
                throw new IllegalArgumentException();
            }
            long left = cents;
            long touched = 0;
            for (ModelDebt d : debts) {
                if (left == 0 || !d.debtors.contains(who) || (d.state != 1 && d.state != 2)) {
                    continue;
                }
                touched++;
                d.time++;
                long interest = Math.min(left, interest(d));
                d.interestPaid += interest;
                left -= interest;
                long open = Math.min(left, d.open);
                d.open -= open;
                d.paidBy[who] += open;
                left -= open;
                if (interest(d) == 0 && d.open == 0) {
                    d.state = 4;
                } else if (interest(d) == 0 && d.open <= 10) {
                    lose(d, 7);
                }
            }
            credit[who] += left;
            return touched;
        }

        long instalments(int debt, int n) {
            ModelDebt d = argument(debt);
            if (n < 2 || n > 12) {
                throw new IllegalArgumentException();
            }
            if (d.state != 1) {
                return 0;
            }
            d.state = 2;
            d.limits = new long[n];
            d.limitDays = new int[n];
            for (int k = 1; k <= n; k++) {
                d.limits[k - 1] = d.open * (n - k) / n;
                d.limitDays[k - 1] = today + 30 * k;
            }
            return 1;
        }

        long appeal(int debt) {
            ModelDebt d = argument(debt);
            if (d.state != 1 && d.state != 2) {
                return 0;
            }
            d.state = 3;
            return 1;
        }

        long decide(int debt, boolean forDebtor) {
            ModelDebt d = argument(debt);
            if (d.state != 3) {
                return -1;
            }
            if (forDebtor) {
                lose(d, 5);
                return d.lost;
            }
            notifyOn(d, today);
            return 0;
        }

        long tick(int day) {
            if (day < today || day > 100000) {
                throw new IllegalArgumentException();
            }
            long ended = 0;
            while (today < day) {
                today++;
                for (ModelDebt d : debts) {
                    if (dawn(d, today)) {
                        ended++;
                    }
                    interestOfDay(d, today);
                }
            }
            return ended;
        }

        long due(int debt, int side) {
            ModelDebt d = argument(debt);
            if (side < 0 || side > 4) {
                throw new IllegalArgumentException();
            }
            return new long[] {d.open, interest(d), d.cents, d.lost, d.interestPaid}[side];
        }

        long recourse(int debt, int who, int side) {
            ModelDebt d = argument(debt);
            if (side < 0 || side > 2 || !d.debtors.contains(who)) {
                throw new IllegalArgumentException();
            }
            long[] shares = new long[d.debtors.size()];
            long each = d.cents / shares.length;
            long over = d.cents - each * shares.length;
            for (int i = 0; i < shares.length; i++) {
                shares[i] = each + (over-- > 0 ? 1 : 0);
            }
            long share = shares[d.debtors.indexOf(who)];
            long claim = d.paidBy[who] > share ? d.paidBy[who] - share : 0;
            return new long[] {d.paidBy[who], share, claim}[side];
        }

        long look(int debt, int what) {
            ModelDebt d = at(debt);
            if (d == null || what < 0 || what > 7 || what - 4 >= d.debtors.size()) {
                throw new IndexOutOfBoundsException();
            }
            return what >= 4 ? d.debtors.get(what - 4) : new int[] {d.state, d.birth, d.dueDay, d.debtors.size()}[what];
        }

        long sum(int what) {
            if (what >= 20 && what < 36) {
                return credit[what - 20];
            }
            long[] all = new long[8];
            for (ModelDebt d : debts) {
                all[0] += d.cents;
                all[1] += d.open;
                for (long paid : d.paidBy) {
                    all[2] += paid;
                }
                all[3] += d.lost;
                all[4] += d.interestPaid;
            }
            all[5] = debts.size();
            all[6] = today;
            all[7] = rows.size();
            return what >= 0 && what < 8 ? all[what] : -1;
        }
    }

    private interface Call {
        long answer();
    }

    private static final int[] seen = new int[8];
    private static int wrong = 0;

    private static String outcome(Call call) {
        try {
            return Long.toString(call.answer());
        } catch (RuntimeException thrown) {
            return thrown.getClass().getSimpleName();
        }
    }

    private static void same(int run, String text, Call ofModel, Call ofClass) {
        String want = outcome(ofModel);
        String got = outcome(ofClass);
        if (!want.equals(got)) {
            wrong++;
            if (wrong <= 20) {
                System.out.println("run " + run + ": " + text + " answered " + got + ", due is " + want);
            }
        }
    }

    private static int oneOf(Random dice, int... values) {
        return values[dice.nextInt(values.length)];
    }

    /** Now and then a number that no call can do anything with. */
    private static int orFarOff(Random dice, int usual) {
        return dice.nextInt(80) == 0 ? oneOf(dice, Integer.MIN_VALUE, -7, 100001, Integer.MAX_VALUE) : usual;
    }

    private static int aDay(Random dice, Model m) {
        int kind = dice.nextInt(40);
        if (kind == 0) {
            return m.today - 1;
        }
        if (kind == 1) {
            return m.today + oneOf(dice, 1094, 1095, 1096, 365);
        }
        return kind < 30 ? m.today + dice.nextInt(20) : m.today + oneOf(dice, 0, 29, 30, 31, 60, 61);
    }

    private static int aDebt(Random dice, Model m) {
        return orFarOff(dice, 1 + dice.nextInt(m.debts.size() + 1) - (dice.nextInt(50) == 0 ? 1 : 0));
    }

    private static long aSum(Random dice, Model m, int debt) {
        ModelDebt d = m.at(debt);
        int kind = dice.nextInt(12);
        if (kind < 5 && d != null) {
            return d.open + m.interest(d) - dice.nextInt(13) * dice.nextInt(2);
        }
        if (kind < 7 && d != null) {
            return (d.open + 1) / (2 + dice.nextInt(4));
        }
        if (kind == 7) {
            return oneOf(dice, 0, 1, 1000000000, 1000000001, 12);
        }
        return 1 + dice.nextInt(kind < 10 ? 300 : 200000);
    }

    private static void change(int run, Random dice, Model m, DebtRows x) {
        int debt = aDebt(dice, m);
        int who = orFarOff(dice, dice.nextInt(40) == 0 ? oneOf(dice, -1, 16) : oneOf(dice, 0, 1, 2, 3, 5, 15));
        int n = orFarOff(dice, dice.nextInt(30) == 0 ? oneOf(dice, 1, 13) : 2 + dice.nextInt(11));
        boolean forDebtor = dice.nextInt(3) == 0;
        int day = orFarOff(dice, aDay(dice, m));
        long cents = aSum(dice, m, debt);
        switch (dice.nextInt(14)) {
            case 0:
                int down = dice.nextInt(10) == 0 ? oneOf(dice, 0, -1, 1001) : oneOf(dice, 1, 3, 100, 1000);
                int up = dice.nextInt(10) == 0 ? oneOf(dice, -1, down + 1) : dice.nextInt(Math.max(1, down) + 1);
                same(run, "rate(" + day + ", " + up + ", " + down + ")",
                        () -> m.rate(day, up, down), () -> x.rate(day, up, down));
                break;
            case 1:
                same(run, "debt(" + cents + ", " + who + ")", () -> m.debt(cents, who), () -> x.debt(cents, who));
                break;
            case 2:
                same(run, "debtor(" + debt + ", " + who + ")",
                        () -> m.debtor(debt, who), () -> x.debtor(debt, who) ? 1 : 0);
                break;
            case 3:
            case 4:
                same(run, "notified(" + debt + ")", () -> m.notified(debt), () -> x.notified(debt));
                break;
            case 5:
            case 6:
                same(run, "pay(" + who + ", " + cents + ")", () -> m.pay(who, cents), () -> x.pay(who, cents));
                break;
            case 7:
                same(run, "instalments(" + debt + ", " + n + ")",
                        () -> m.instalments(debt, n), () -> x.instalments(debt, n));
                break;
            case 8:
                same(run, "appeal(" + debt + ")", () -> m.appeal(debt), () -> x.appeal(debt));
                break;
            case 9:
            case 10:
                same(run, "decide(" + debt + ", " + forDebtor + ")",
                        () -> m.decide(debt, forDebtor), () -> x.decide(debt, forDebtor));
                break;
            default:
                same(run, "tick(" + day + ")", () -> m.tick(day), () -> x.tick(day));
                break;
        }
    }

    private static void question(int run, Random dice, Model m, DebtRows x) {
        int debt = aDebt(dice, m);
        ModelDebt d = m.at(debt);
        int who = d == null || dice.nextInt(10) == 0 ? dice.nextInt(18) - 1
                : d.debtors.get(dice.nextInt(d.debtors.size()));
        int side = orFarOff(dice, dice.nextInt(10) == 0 ? oneOf(dice, -1, 3, 5) : dice.nextInt(5));
        int third = dice.nextInt(10) == 0 ? side : dice.nextInt(3);
        int what = orFarOff(dice, dice.nextInt(3) == 0 ? dice.nextInt(10) - 1 : 0);
        int total = orFarOff(dice, dice.nextInt(2) == 0 ? dice.nextInt(39) - 1 : dice.nextInt(8));
        switch (dice.nextInt(8)) {
            case 0:
                same(run, "sum(" + total + ")", () -> m.sum(total), () -> x.sum(total));
                break;
            case 1:
                same(run, "recourse(" + debt + ", " + who + ", " + third + ")",
                        () -> m.recourse(debt, who, third), () -> x.recourse(debt, who, third));
                break;
            case 2:
            case 3:
                same(run, "look(" + debt + ", " + what + ")", () -> m.look(debt, what), () -> x.look(debt, what));
                break;
            case 4:
            case 5:
                same(run, "due(" + debt + ", 1)", () -> m.due(debt, 1), () -> x.due(debt, 1));
                break;
            default:
                same(run, "due(" + debt + ", " + side + ")", () -> m.due(debt, side), () -> x.due(debt, side));
                break;
        }
    }

    public static void main(String[] args) {
        for (int run = 1; run <= RUNS && wrong == 0; run++) {
            Random dice = new Random(run);
            Model m = new Model();
            DebtRows x = new DebtRows();
            for (int call = 0; call < CALLS; call++) {
                if (dice.nextInt(5) < 3) {
                    change(run, dice, m, x);
                } else {
                    question(run, dice, m, x);
                }
            }
            for (ModelDebt d : m.debts) {
                seen[d.state]++;
            }
            if (m.sum(0) != m.sum(1) + m.sum(2) + m.sum(3)) {
                wrong++;
                System.out.println("run " + run + ": the model itself loses cents");
            }
        }
        for (int state = 0; state < seen.length; state++) {
            if (seen[state] == 0 && wrong == 0) {
                wrong++;
                System.out.println("no run ended with a debt in state " + state);
            }
        }
        System.out.println(wrong == 0 ? "all answers are as due" : wrong + " answers are not as due");
        if (wrong != 0) {
            System.exit(1);
        }
    }
}
