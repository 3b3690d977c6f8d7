import java.util.ArrayList;
import java.util.List;

/**
 * What throws or is refused changes nothing. Each such call is made on objects in several scenes: every
 * question must have the same answer before and behind it, and an object that it was made on must
 * answer all later calls like one that it was not made on.
 */
public final class DebtRowsRefusals {
    private interface Step {
        long on(DebtRows x);
    }

    private interface DebtStep {
        Step of(int debt);
    }

    private static final int MOST_CALLS = 512;
    private static final int QUESTIONS_AT_ONCE = 150;
    private static final int MIN = Integer.MIN_VALUE;
    private static final int MAX = Integer.MAX_VALUE;
    private static final String ARGUMENT = "IllegalArgumentException";
    private static final String STATE = "IllegalStateException";
    private static final String ARITHMETIC = "ArithmeticException";
    private static final String INDEX = "IndexOutOfBoundsException";
    private static final String NO = "0";
    private static final String NONE = "-1";
    // The debts of the scene that has one in each state, by number.
    private static final int FALLEN = 1;
    private static final int PAID = 2;
    private static final int REMITTED = 3;
    private static final int WRITTEN_OFF = 4;
    private static final int BORN = 5;
    private static final int NOTIFIED = 6;
    private static final int DEFERRED = 7;
    private static final int SUSPENDED = 8;
    private static final int BORN_OF_FOUR = 9;

    private static final int[] NO_PERSON = {MIN, -1, 16, MAX};
    private static final long[] NO_SUM = {Long.MIN_VALUE, -1, 0, 1000000001L, Long.MAX_VALUE};

    /** An object that may be asked no more than the document lets it be. */
    private static final class Subject {
        final DebtRows rows = new DebtRows();
        int calls;

        String outcome(Step step) {
            calls++;
            if (calls > MOST_CALLS) {
                throw new IllegalStateException("this test makes more calls than the document lets it");
            }
            try {
                return Long.toString(step.on(rows));
            } catch (RuntimeException thrown) {
                return thrown.getClass().getSimpleName();
            }
        }

        List<String> outcomes(List<Step> steps) {
            List<String> all = new ArrayList<>();
            for (Step step : steps) {
                all.add(outcome(step));
            }
            return all;
        }
    }

    /** How an object came to be as it is, what can be asked of it, and what may happen to it later. */
    private static final class Scene {
        final String name;
        final List<Step> past = new ArrayList<>();
        final List<Step> questions = new ArrayList<>();
        final List<Step> later = new ArrayList<>();
        int today;
        int debts;

        Scene(String name) {
            this.name = name;
        }

        void tick(int day) {
            past.add(x -> x.tick(day));
            today = day;
        }

        void rate(int from, int up, int down) {
            past.add(x -> x.rate(from, up, down));
        }

        int debt(long cents, int... who) {
            past.add(x -> x.debt(cents, who[0]));
            debts++;
            int number = debts;
            for (int i = 1; i < who.length; i++) {
                int more = who[i];
                past.add(x -> x.debtor(number, more) ? 1 : 0);
            }
            return number;
        }

        void notified(int... numbers) {
            for (int debt : numbers) {
                past.add(x -> x.notified(debt));
            }
        }

        void pay(int who, long cents) {
            past.add(x -> x.pay(who, cents));
        }

        void instalments(int debt, int n) {
            past.add(x -> x.instalments(debt, n));
        }

        void appeal(int debt) {
            past.add(x -> x.appeal(debt));
        }

        void decide(int debt, boolean forDebtor) {
            past.add(x -> x.decide(debt, forDebtor));
        }

        Scene ready() {
            everyQuestion();
            laterCalls();
            return this;
        }

        private void everyQuestion() {
            for (int i = 0; i <= debts + 1; i++) {
                int debt = i;
                for (int j = -1; j <= 8; j++) {
                    int side = j;
                    questions.add(x -> x.due(debt, side));
                    questions.add(x -> x.look(debt, side));
                }
                for (int j = 0; j <= 15; j++) {
                    int who = j;
                    questions.add(x -> x.recourse(debt, who, 0));
                    questions.add(x -> x.recourse(debt, who, 1));
                    questions.add(x -> x.recourse(debt, who, 2));
                }
            }
            for (int i = -1; i <= 36; i++) {
                int what = i;
                questions.add(x -> x.sum(what));
            }
        }

        private void laterCalls() {
            later.add(x -> x.rate(today + 2, 1, 3));
            later.add(x -> x.debt(777, 2));
            for (int i = 1; i <= 3; i++) {
                wait(1);
                each(debt -> x -> x.due(debt, 1));
            }
            each(debt -> x -> x.debtor(debt, 14) ? 1 : 0);
            later.add(x -> x.pay(0, 11));
            wait(12);
            each(debt -> x -> x.due(debt, 1));
            each(debt -> x -> x.notified(debt));
            wait(31);
            later.add(x -> x.pay(1, 300));
            each(debt -> x -> x.look(debt, 0));
            each(debt -> x -> x.instalments(debt, 2 + debt % 11));
            wait(31);
            each(debt -> x -> x.due(debt, 1));
            each(debt -> x -> x.appeal(debt));
            wait(9);
            each(debt -> x -> x.decide(debt, debt % 2 == 0));
            wait(1096);
            each(debt -> x -> x.due(debt, 1));
            later.add(x -> x.pay(2, 1000000000L));
            for (int i = 0; i <= 7; i++) {
                int what = i;
                later.add(x -> x.sum(what));
            }
        }

        private void wait(int days) {
            later.add(x -> x.tick((int) x.sum(6) + days));
        }

        private void each(DebtStep step) {
            for (int debt = 1; debt <= Math.min(debts + 1, 20); debt++) {
                later.add(step.of(debt));
            }
        }

        Subject made() {
            Subject made = new Subject();
            for (Step step : past) {
                String got = made.outcome(step);
                if (got.endsWith("Exception")) {
                    tell(name + ": a call that makes the scene threw " + got);
                }
            }
            return made;
        }
    }

    private static int wrong = 0;
    private static int refusals = 0;
    private static Scene scene;

    private static void tell(String what) {
        wrong++;
        if (wrong <= 50) {
            System.out.println(what);
        }
    }

    private static void refused(String call, String want, Step step) {
        refusals++;
        List<Step> all = scene.questions;
        for (int from = 0; from < all.size(); from += QUESTIONS_AT_ONCE) {
            List<Step> some = all.subList(from, Math.min(all.size(), from + QUESTIONS_AT_ONCE));
            Subject x = scene.made();
            List<String> before = x.outcomes(some);
            String got = x.outcome(step);
            if (!got.equals(want)) {
                tell(scene.name + ": " + call + " answered " + got + ", due is " + want);
                return;
            }
            if (!before.equals(x.outcomes(some))) {
                tell(scene.name + ": " + call + " is refused, but changes what a question answers");
            }
        }
        sameLater(call, step);
    }

    private static void sameLater(String call, Step step) {
        Subject with = scene.made();
        Subject without = scene.made();
        with.outcome(step);
        if (!with.outcomes(scene.later).equals(without.outcomes(scene.later))) {
            tell(scene.name + ": " + call + " is refused, but changes what a later call answers");
        }
    }

    private static Scene nothingYet() {
        return new Scene("a new object").ready();
    }

    /** Debts in each of the eight states, with interest that runs and that is fixed. */
    private static Scene everyState() {
        Scene s = new Scene("debts in every state");
        s.rate(1, 1, 10);
        s.rate(1100, 1, 3);
        s.rate(1200, 7, 1000);
        s.tick(5);
        s.debt(70000, 0, 1);
        s.debt(50000, 0, 3);
        s.debt(60000, 1);
        s.debt(5000, 4);
        s.notified(PAID, REMITTED, WRITTEN_OFF);
        s.tick(10);
        s.pay(3, 60000);
        s.pay(4, 4993);
        s.tick(20);
        s.appeal(REMITTED);
        s.decide(REMITTED, true);
        s.tick(1080);
        s.debt(81000, 2, 6);
        s.debt(82001, 0, 7, 2);
        s.debt(83002, 0, 1);
        s.debt(84003, 1, 2);
        s.debt(85003, 8, 9, 10, 11);
        s.notified(NOTIFIED, DEFERRED, SUSPENDED);
        s.tick(1098);
        s.pay(7, 1000);
        s.instalments(DEFERRED, 3);
        s.pay(1, 30000);
        s.tick(1105);
        s.appeal(SUSPENDED);
        s.pay(15, 44);
        s.tick(1111);
        return s.ready();
    }

    /** As many rows of rates and debts as there may be. */
    private static Scene full() {
        Scene s = new Scene("rates and debts are full");
        for (int i = 1; i <= 20; i++) {
            s.rate(3 * i, i, 20);
        }
        for (int i = 1; i <= 40; i++) {
            s.debt(1000L * i, i % 16);
        }
        s.notified(1, 2, 3, 40);
        s.tick(33);
        s.instalments(2, 12);
        s.appeal(3);
        return s.ready();
    }

    /** No day can be told behind this one, and no rate. */
    private static Scene lastDay() {
        Scene s = new Scene("the last day");
        s.rate(99000, 1, 2);
        s.tick(99950);
        s.debt(1000, 0);
        s.debt(2000, 0, 1);
        s.debt(3000, 1);
        s.notified(1, 2);
        s.instalments(2, 2);
        s.tick(100000);
        return s.ready();
    }

    private static int[] noDebts() {
        return new int[] {MIN, -1, 0, scene.debts + 1, 41, MAX};
    }

    private static void wrongRates() {
        int day = Math.max(scene.today + 1, 5000);
        for (int from : new int[] {MIN, -1, 0, scene.today - 1, scene.today, 100001, MAX}) {
            refused("rate(" + from + ", 1, 2)", ARGUMENT, x -> x.rate(from, 1, 2));
            refused("rate(" + from + ", 1, 0)", ARITHMETIC, x -> x.rate(from, 1, 0));
        }
        for (int down : new int[] {MIN, -1, 1001, MAX}) {
            refused("rate(day, 0, " + down + ")", ARGUMENT, x -> x.rate(day, 0, down));
        }
        for (int up : new int[] {MIN, -1, 3, MAX}) {
            refused("rate(day, " + up + ", 2)", ARGUMENT, x -> x.rate(day, up, 2));
        }
        refused("rate(day, 0, 0)", ARITHMETIC, x -> x.rate(day, 0, 0));
    }

    private static void wrongSumsAndPeople() {
        for (long cents : NO_SUM) {
            refused("debt(" + cents + ", 0)", ARGUMENT, x -> x.debt(cents, 0));
            refused("pay(0, " + cents + ")", ARGUMENT, x -> x.pay(0, cents));
        }
        for (int who : NO_PERSON) {
            refused("debt(1, " + who + ")", ARGUMENT, x -> x.debt(1, who));
            refused("pay(" + who + ", 1)", ARGUMENT, x -> x.pay(who, 1));
            refused("debtor(1, " + who + ")", NO, x -> x.debtor(1, who) ? 1 : 0);
            refused("recourse(1, " + who + ", 0)", ARGUMENT, x -> x.recourse(1, who, 0));
        }
    }

    private static void debtsThatAreNotThere() {
        for (int debt : noDebts()) {
            String call = "(" + debt + ", ..)";
            refused("debtor" + call, NO, x -> x.debtor(debt, 14) ? 1 : 0);
            refused("notified" + call, ARGUMENT, x -> x.notified(debt));
            refused("instalments" + call, ARGUMENT, x -> x.instalments(debt, 2));
            refused("appeal" + call, ARGUMENT, x -> x.appeal(debt));
            refused("decide for" + call, ARGUMENT, x -> x.decide(debt, true));
            refused("decide against" + call, ARGUMENT, x -> x.decide(debt, false));
            refused("due" + call, ARGUMENT, x -> x.due(debt, 0));
            refused("recourse" + call, ARGUMENT, x -> x.recourse(debt, 0, 0));
            refused("look" + call, INDEX, x -> x.look(debt, 0));
        }
    }

    private static void wrongSides() {
        for (int side : new int[] {MIN, -1, 8, 19, 36, MAX}) {
            refused("sum(" + side + ")", NONE, x -> x.sum(side));
        }
        if (scene.debts < 1) {
            return;
        }
        for (int side : new int[] {MIN, -1, 5, MAX}) {
            refused("due(1, " + side + ")", ARGUMENT, x -> x.due(1, side));
            refused("recourse(1, 0, " + side + ")", ARGUMENT, x -> x.recourse(1, 0, side));
        }
        refused("recourse(1, 0, 3)", ARGUMENT, x -> x.recourse(1, 0, 3));
        refused("recourse(1, 13, 0)", ARGUMENT, x -> x.recourse(1, 13, 0));
        for (int what : new int[] {MIN, -1, 6, 7, 8, MAX}) {
            refused("look(1, " + what + ")", INDEX, x -> x.look(1, what));
        }
        for (int n : new int[] {MIN, 0, 1, 13, MAX}) {
            for (int debt = 1; debt <= Math.min(scene.debts, 9); debt++) {
                int each = debt;
                refused("instalments(" + debt + ", " + n + ")", ARGUMENT, x -> x.instalments(each, n));
            }
        }
    }

    private static void wrongDays() {
        for (int day : new int[] {MIN, -1, scene.today - 1, 100001, MAX}) {
            refused("tick(" + day + ")", ARGUMENT, x -> x.tick(day));
        }
    }

    private static void wrongArguments(Scene where) {
        scene = where;
        wrongRates();
        wrongSumsAndPeople();
        debtsThatAreNotThere();
        wrongSides();
        wrongDays();
    }

    private static void wrongStates() {
        scene = everyState();
        statesAreAsNamed();
        for (int number = 1; number <= 9; number++) {
            int debt = number;
            boolean born = debt == BORN || debt == BORN_OF_FOUR;
            if (!born) {
                refused("notified(" + debt + ")", NO, x -> x.notified(debt));
            }
            if (debt != BORN) {
                refused("debtor(" + debt + ", 14)", NO, x -> x.debtor(debt, 14) ? 1 : 0);
            }
            if (debt != NOTIFIED) {
                refused("instalments(" + debt + ", 2)", NO, x -> x.instalments(debt, 2));
                refused("instalments(" + debt + ", 12)", NO, x -> x.instalments(debt, 12));
            }
            if (debt != NOTIFIED && debt != DEFERRED) {
                refused("appeal(" + debt + ")", NO, x -> x.appeal(debt));
            }
            if (debt != SUSPENDED) {
                refused("decide(" + debt + ", true)", NONE, x -> x.decide(debt, true));
                refused("decide(" + debt + ", false)", NONE, x -> x.decide(debt, false));
            }
        }
        refused("debtor(born, its first)", NO, x -> x.debtor(BORN, 2) ? 1 : 0);
        refused("debtor(born, its second)", NO, x -> x.debtor(BORN, 6) ? 1 : 0);
        refused("debtor(born of four, its fourth)", NO, x -> x.debtor(BORN_OF_FOUR, 11) ? 1 : 0);
        refused("rate ahead of the latest", ARGUMENT, x -> x.rate(1199, 1, 2));
        refused("look(1, 6), two debtors", INDEX, x -> x.look(FALLEN, 6));
        refused("look(9, 8), four debtors", INDEX, x -> x.look(BORN_OF_FOUR, 8));
    }

    private static void statesAreAsNamed() {
        int[] states = {6, 4, 5, 7, 0, 1, 2, 3, 0};
        Subject x = scene.made();
        for (int i = 0; i < states.length; i++) {
            int debt = i + 1;
            String got = x.outcome(rows -> rows.look(debt, 0));
            if (!got.equals(Integer.toString(states[i]))) {
                tell(scene.name + ": debt " + debt + " is in state " + got + ", wanted is " + states[i]);
            }
        }
    }

    private static void noMore() {
        scene = full();
        refused("rate 21", STATE, x -> x.rate(60, 1, 2));
        refused("rate 21 from a later day", STATE, x -> x.rate(100000, 1, 2));
        refused("rate 21 ahead of the latest", ARGUMENT, x -> x.rate(59, 1, 2));
        refused("rate 21, down 0", ARITHMETIC, x -> x.rate(60, 1, 0));
        refused("debt 41", STATE, x -> x.debt(1, 0));
        refused("debt 41 of 0 cents", ARGUMENT, x -> x.debt(0, 0));
        refused("debt 41 of nobody", ARGUMENT, x -> x.debt(1, 16));
        refused("instalments of a born one", NO, x -> x.instalments(39, 2));
    }

    public static void main(String[] args) {
        wrongArguments(nothingYet());
        wrongArguments(everyState());
        wrongArguments(full());
        wrongArguments(lastDay());
        wrongStates();
        noMore();
        System.out.println(refusals + " refused calls, "
                + (wrong == 0 ? "none of which changes anything" : wrong + " answers are not as due"));
        if (wrong != 0) {
            System.exit(1);
        }
    }
}
