/**
 * Each sentence of the document that names a boundary has a test of its own here: at the last value
 * that is still good and at the first that is not. The sentence stands at the head of its test.
 */
public final class DebtRowsEdges {
    private interface Call {
        long answer();
    }

    private static final int BORN = 0;
    private static final int NOTIFIED = 1;
    private static final int DEFERRED = 2;
    private static final int SUSPENDED = 3;
    private static final int PAID = 4;
    private static final int REMITTED = 5;
    private static final int FALLEN = 6;
    private static final int WRITTEN_OFF = 7;

    private static final int OPEN = 0;
    private static final int INTEREST = 1;
    private static final int CENTS = 2;
    private static final int LOST = 3;
    private static final int INTEREST_PAID = 4;

    private static final int STATE = 0;
    private static final int BIRTH = 1;
    private static final int DUE_DAY = 2;
    private static final int DEBTORS = 3;

    private static final int MIN = Integer.MIN_VALUE;
    private static final int MAX = Integer.MAX_VALUE;
    private static final int[] NO_DEBT_OF_TWO = {MIN, -1, 0, 3, 40, 41, MAX};
    private static final int[] NO_PERSON = {MIN, -1, 16, MAX};
    private static final long[] NO_SUM = {Long.MIN_VALUE, -1, 0, 1000000001L, (1L << 32) + 1, Long.MAX_VALUE};

    private static int wrong = 0;
    private static int tests = 0;
    private static String sentence = "";

    /** One broken sentence must not hide the others, so a test that throws is told and left. */
    private static void test(String words, Runnable body) {
        sentence = words;
        tests++;
        try {
            body.run();
        } catch (RuntimeException thrown) {
            tell("the test ended with " + thrown);
        }
    }

    private static void tell(String what) {
        wrong++;
        System.out.println("\"" + sentence + "\": " + what);
    }

    private static void is(String call, long want, long got) {
        if (got != want) {
            tell(call + " answered " + got + ", due is " + want);
        }
    }

    private static void is(String call, boolean want, boolean got) {
        is(call, want ? 1 : 0, got ? 1 : 0);
    }

    private static void fails(String call, Class<? extends RuntimeException> want, Call made) {
        try {
            tell(call + " answered " + made.answer() + ", due is " + want.getSimpleName());
        } catch (RuntimeException thrown) {
            if (thrown.getClass() != want) {
                tell(call + " threw " + thrown + ", due is " + want.getSimpleName());
            }
        }
    }

    private static void argument(String call, Call made) {
        fails(call, IllegalArgumentException.class, made);
    }

    private static void state(String call, Call made) {
        fails(call, IllegalStateException.class, made);
    }

    private static void arithmetic(String call, Call made) {
        fails(call, ArithmeticException.class, made);
    }

    private static void index(String call, Call made) {
        fails(call, IndexOutOfBoundsException.class, made);
    }

    /** A debt of person 0, notified on day 0 and so due on day 10, without any rate. */
    private static DebtRows plain(long cents) {
        DebtRows x = new DebtRows();
        x.debt(cents, 0);
        x.notified(1);
        return x;
    }

    /** The same at 1 / 1 of a year from day 1 on: 365 cents bring a cent of interest a day. */
    private static DebtRows dear(long cents) {
        DebtRows x = new DebtRows();
        x.rate(1, 1, 1);
        x.debt(cents, 0);
        x.notified(1);
        return x;
    }

    /** Two debts of person 0, born on day 0. */
    private static DebtRows two() {
        DebtRows x = new DebtRows();
        x.debt(100, 0);
        x.debt(100, 0);
        return x;
    }

    /** One debt of 1000 cents, of person 0, in this state; 995 are paid of one that is written off. */
    private static DebtRows inState(int wanted) {
        DebtRows x = new DebtRows();
        x.debt(1000, 0);
        if (wanted == FALLEN) {
            x.tick(1096);
        } else if (wanted != BORN) {
            x.notified(1);
        }
        if (wanted == DEFERRED) {
            x.instalments(1, 2);
        } else if (wanted == SUSPENDED || wanted == REMITTED) {
            x.appeal(1);
        } else if (wanted == PAID || wanted == WRITTEN_OFF) {
            x.pay(0, wanted == PAID ? 1000 : 995);
        }
        if (wanted == REMITTED) {
            x.decide(1, true);
        }
        is("the state that the test starts from", wanted, x.look(1, STATE));
        return x;
    }

    private static DebtRows withRows(int count) {
        DebtRows x = new DebtRows();
        for (int i = 1; i <= count; i++) {
            x.rate(i, 1, 1);
        }
        return x;
    }

    private static DebtRows withDebts(int count) {
        DebtRows x = new DebtRows();
        for (int i = 1; i <= count; i++) {
            x.debt(i, 0);
        }
        return x;
    }

    private static void days() {
        test("DAYS are 0 .. 100000", () -> {
            DebtRows x = new DebtRows();
            argument("tick(-1)", () -> x.tick(-1));
            is("tick(0)", 0, x.tick(0));
            argument("tick(100001)", () -> x.tick(100001));
            is("tick(100000)", 0, x.tick(100000));
            argument("tick(100001) on the last day", () -> x.tick(100001));
        });
        test("TODAY is the latest that was told (0 at first)", () -> {
            DebtRows x = new DebtRows();
            is("at first", 0, x.sum(6));
            x.tick(1);
            is("on day 1", 1, x.sum(6));
            x.tick(100000);
            is("on the last day", 100000, x.sum(6));
        });
    }

    private static void people() {
        test("PEOPLE are 0 .. 15", () -> {
            DebtRows x = new DebtRows();
            for (int who = 0; who <= 15; who++) {
                is("debt of " + who, who + 1, x.debt(100, who));
                is("its debtor", who, x.look(who + 1, 4));
                is("its share", 100, x.recourse(who + 1, who, 1));
                is("pay by " + who, 0, x.pay(who, 1 + who));
                is("credit of " + who, 1 + who, x.sum(20 + who));
            }
            is("debtor 15", true, x.debtor(1, 15));
            is("debtor 0", true, x.debtor(2, 0));
        });
        for (int who : NO_PERSON) {
            test("PEOPLE are 0 .. 15: not " + who, () -> {
                DebtRows x = two();
                argument("debt", () -> x.debt(1, who));
                is("debtor", false, x.debtor(1, who));
                argument("pay", () -> x.pay(who, 1));
                argument("recourse", () -> x.recourse(1, who, 0));
            });
        }
    }

    private static void rowsOfRates() {
        test("RATES (20 at most); IllegalStateException if there are 20", () -> {
            DebtRows x = withRows(19);
            is("row 20", 20, x.rate(20, 1, 1));
            state("row 21", () -> x.rate(20, 1, 1));
            is("rows", 20, x.sum(7));
        });
        test("RATES (20 at most): each of them counts", () -> {
            DebtRows x = new DebtRows();
            for (int i = 1; i <= 20; i++) {
                x.rate(10 + i, i, 20);
            }
            x.debt(36500, 0);
            x.notified(1);
            long interest = 0;
            for (int i = 1; i <= 20; i++) {
                interest += 100L * i / 20;
                x.tick(10 + i);
                is("with row " + i, interest, x.due(1, INTEREST));
            }
            x.tick(31);
            is("a day more of the last row", interest + 100, x.due(1, INTEREST));
        });
        test("from a day on (behind TODAY)", () -> {
            DebtRows x = new DebtRows();
            argument("from day 0 on day 0", () -> x.rate(0, 1, 1));
            is("from day 1 on day 0", 1, x.rate(1, 1, 1));
            x.tick(50);
            argument("from day 49 on day 50", () -> x.rate(49, 1, 1));
            argument("from day 50 on day 50", () -> x.rate(50, 1, 1));
            is("from day 51 on day 50", 2, x.rate(51, 1, 1));
        });
        test("and not ahead of the latest one's", () -> {
            DebtRows x = new DebtRows();
            x.rate(9, 1, 1);
            argument("from day 8", () -> x.rate(8, 1, 1));
            is("from day 9", 2, x.rate(9, 1, 1));
            is("from day 10", 3, x.rate(10, 1, 1));
            argument("from day 9 again", () -> x.rate(9, 1, 1));
        });
        test("100000 at most", () -> {
            DebtRows x = new DebtRows();
            argument("from day 100001", () -> x.rate(100001, 1, 1));
            argument("from the largest day", () -> x.rate(MAX, 1, 1));
            argument("from the least day", () -> x.rate(MIN, 1, 1));
            is("from day 100000", 1, x.rate(100000, 1, 1));
            is("from day 100000 again", 2, x.rate(100000, 1, 1));
            x.tick(99999);
            is("on the day ahead of it", 3, x.rate(100000, 1, 1));
            x.tick(100000);
            argument("on the last day", () -> x.rate(100000, 1, 1));
        });
        test("ArithmeticException if down is 0", () -> {
            DebtRows x = new DebtRows();
            arithmetic("down 0", () -> x.rate(1, 0, 0));
            is("down 1", 1, x.rate(1, 0, 1));
        });
        test("up is not 0 .. down", () -> {
            DebtRows x = new DebtRows();
            argument("up -1", () -> x.rate(1, -1, 7));
            is("up 0", 1, x.rate(1, 0, 7));
            is("up as down", 2, x.rate(1, 7, 7));
            argument("up above down", () -> x.rate(1, 8, 7));
            argument("the least up", () -> x.rate(1, MIN, 7));
            argument("the largest up", () -> x.rate(1, MAX, 7));
        });
        test("down above 1000 or below 0", () -> {
            DebtRows x = new DebtRows();
            argument("down -1", () -> x.rate(1, 0, -1));
            argument("down -1, up -1", () -> x.rate(1, -1, -1));
            is("down 1000", 1, x.rate(1, 1, 1000));
            is("down 1000, up 1000", 2, x.rate(1, 1000, 1000));
            argument("down 1001", () -> x.rate(1, 1, 1001));
            argument("the least down", () -> x.rate(1, 0, MIN));
            argument("the largest down", () -> x.rate(1, 1, MAX));
        });
    }

    private static void ratesThatCount() {
        test("from a day on: a row counts on its first day", () -> {
            DebtRows x = plain(365);
            x.rate(20, 1, 1);
            x.tick(19);
            is("the day ahead", 0, x.due(1, INTEREST));
            x.tick(20);
            is("its day", 1, x.due(1, INTEREST));
        });
        test("Ahead of the first one the rate is 0", () -> {
            DebtRows x = plain(1000000000L);
            x.tick(5000);
            is("without any row", 0, x.due(1, INTEREST));
            x.rate(5002, 1, 1);
            x.tick(5001);
            is("on the last day ahead of it", 0, x.due(1, INTEREST));
            x.tick(5002);
            is("on its day", 1000000000L / 365, x.due(1, INTEREST));
        });
        test("of two from the same day the later told counts alone", () -> {
            DebtRows x = plain(36500);
            x.rate(20, 1, 1);
            x.rate(20, 1, 2);
            x.tick(20);
            is("one day of the later", 50, x.due(1, INTEREST));
            x.tick(21);
            is("two days of the later", 100, x.due(1, INTEREST));
        });
        test("the later told counts alone: a later rate of 0", () -> {
            DebtRows x = plain(36500);
            x.rate(20, 1, 1);
            x.rate(20, 0, 1);
            x.tick(100);
            is("nothing of the first", 0, x.due(1, INTEREST));
        });
        test("the later told counts alone: of three, among other rows", () -> {
            DebtRows x = plain(36500);
            x.rate(15, 1, 2);
            x.rate(20, 1, 4);
            x.rate(20, 1, 1);
            x.rate(20, 1, 5);
            x.rate(25, 1, 10);
            x.tick(19);
            is("the row ahead of them, to the day ahead of theirs", 5 * 50, x.due(1, INTEREST));
            x.tick(24);
            is("the last of the three", 5 * 50 + 5 * 20, x.due(1, INTEREST));
            x.tick(25);
            is("the row behind them", 5 * 50 + 5 * 20 + 10, x.due(1, INTEREST));
        });
        test("the later told counts alone: told on a later day", () -> {
            DebtRows x = plain(36500);
            x.rate(20, 1, 1);
            x.tick(19);
            x.rate(20, 1, 2);
            x.tick(22);
            is("three days of the later", 150, x.due(1, INTEREST));
        });
        test("of a year (365 days)", () -> {
            DebtRows x = dear(1000);
            x.tick(10 + 364);
            is("364 days", 1000 * 364 / 365, x.due(1, INTEREST));
            x.tick(10 + 365);
            is("365 days", 1000, x.due(1, INTEREST));
            x.tick(10 + 366);
            is("366 days", 1000 * 366 / 365, x.due(1, INTEREST));
        });
    }

    private static void births() {
        test("DEBTS 1, 2, .. (40 at most); IllegalStateException if there are 40", () -> {
            DebtRows x = withDebts(38);
            is("debt 39", 39, x.debt(1, 0));
            is("debt 40", 40, x.debt(1, 0));
            state("debt 41", () -> x.debt(1, 0));
            is("debts", 40, x.sum(5));
            is("debt 40 is there", 1, x.due(40, CENTS));
            argument("debt 41 is not there", () -> x.due(41, CENTS));
        });
        test("40 at most: one payment can touch them all", () -> {
            DebtRows x = withDebts(40);
            for (int i = 1; i <= 40; i++) {
                x.notified(i);
            }
            is("touched", 40, x.pay(0, 820 + 3));
            is("the last one", PAID, x.look(40, STATE));
            is("paid", 820, x.sum(2));
            is("credit", 3, x.sum(20));
            is("nothing more to touch", 0, x.pay(0, 4));
            is("credit", 7, x.sum(20));
        });
        test("40 at most: those that have ended count as well", () -> {
            DebtRows x = withDebts(40);
            is("all fall", 40, x.tick(1096));
            state("debt 41", () -> x.debt(1, 0));
        });
        test("BORN TODAY", () -> {
            DebtRows x = new DebtRows();
            x.debt(1, 0);
            x.tick(77);
            x.debt(1, 0);
            x.tick(100000);
            x.debt(1, 0);
            is("on day 0", 0, x.look(1, BIRTH));
            is("on day 77", 77, x.look(2, BIRTH));
            is("on the last day", 100000, x.look(3, BIRTH));
        });
        test("the cents are not 1 .. 1000000000", () -> {
            DebtRows x = new DebtRows();
            for (long cents : NO_SUM) {
                argument("debt of " + cents, () -> x.debt(cents, 0));
            }
            is("debt of 1", 1, x.debt(1, 0));
            is("debt of 1000000000", 2, x.debt(1000000000L, 0));
            is("open of 1", 1, x.due(1, OPEN));
            is("open of 1000000000", 1000000000L, x.due(2, OPEN));
        });
    }

    private static void jointDebtors() {
        test("DEBTORS: 4 at most, in the order in which they were told", () -> {
            DebtRows x = new DebtRows();
            x.debt(100, 9);
            is("second", true, x.debtor(1, 2));
            is("third", true, x.debtor(1, 15));
            is("fourth", true, x.debtor(1, 0));
            is("fifth", false, x.debtor(1, 1));
            is("debtors", 4, x.look(1, DEBTORS));
            is("debtor 0", 9, x.look(1, 4));
            is("debtor 1", 2, x.look(1, 5));
            is("debtor 2", 15, x.look(1, 6));
            is("debtor 3", 0, x.look(1, 7));
        });
        test("false if they are one: whichever place they have", () -> {
            DebtRows x = new DebtRows();
            x.debt(100, 9);
            is("the first", false, x.debtor(1, 9));
            x.debtor(1, 2);
            is("the second", false, x.debtor(1, 2));
            x.debtor(1, 3);
            is("the third", false, x.debtor(1, 3));
            is("debtors", 3, x.look(1, DEBTORS));
            is("the same person for another debt", 2, x.debt(100, 9));
            is("and another one of this debt for that", true, x.debtor(2, 2));
        });
        test("false if there is no such debt", () -> {
            is("without any debt", false, new DebtRows().debtor(1, 1));
            DebtRows x = two();
            for (int debt : NO_DEBT_OF_TWO) {
                is("debt " + debt, false, x.debtor(debt, 1));
            }
            is("debt 2", true, x.debtor(2, 1));
        });
        for (int from = BORN; from <= WRITTEN_OFF; from++) {
            int now = from;
            test("false if it is not BORN: in state " + now, () -> {
                DebtRows x = inState(now);
                is("one more", now == BORN, x.debtor(1, 1));
                is("debtors", now == BORN ? 2 : 1, x.look(1, DEBTORS));
            });
        }
    }

    private static void losses() {
        test("What was OPEN when it became 5, 6 or 7 is LOST; then nothing is OPEN: REMITTED", () -> {
            DebtRows x = plain(1000);
            x.pay(0, 400);
            x.appeal(1);
            is("not lost yet", 0, x.due(1, LOST));
            is("decided", 600, x.decide(1, true));
            is("lost", 600, x.due(1, LOST));
            is("open", 0, x.due(1, OPEN));
            is("cents stay", 1000, x.due(1, CENTS));
        });
        test("is LOST: FALLEN", () -> {
            DebtRows x = inState(FALLEN);
            is("lost", 1000, x.due(1, LOST));
            is("open", 0, x.due(1, OPEN));
            is("cents stay", 1000, x.due(1, CENTS));
        });
        test("is LOST: WRITTEN OFF", () -> {
            DebtRows x = inState(WRITTEN_OFF);
            is("lost", 5, x.due(1, LOST));
            is("open", 0, x.due(1, OPEN));
            is("cents stay", 1000, x.due(1, CENTS));
        });
        for (int from = BORN; from <= PAID; from++) {
            int now = from;
            test("is LOST: nothing in state " + now, () -> {
                DebtRows x = inState(now);
                is("lost", 0, x.due(1, LOST));
                is("open", now == PAID ? 0 : 1000, x.due(1, OPEN));
            });
        }
    }

    private static void notification() {
        test("up to 1095 days behind its birth (that day included)", () -> {
            DebtRows x = two();
            is("on day 1095 nothing falls", 0, x.tick(1095));
            is("on day 1095", 1105, x.notified(1));
            x.tick(1096);
            is("on day 1096", 0, x.notified(2));
            is("notified", NOTIFIED, x.look(1, STATE));
            is("fallen", FALLEN, x.look(2, STATE));
        });
        test("up to 1095 days behind its birth: born on a later day", () -> {
            DebtRows x = new DebtRows();
            x.tick(500);
            x.debt(100, 0);
            x.debt(100, 0);
            x.tick(1595);
            is("on day 1095 behind it", 1605, x.notified(1));
            is("falls on day 1096 behind it", 1, x.tick(1596));
            is("on day 1096 behind it", 0, x.notified(2));
        });
        test("it is DUE 10 days later", () -> {
            DebtRows x = two();
            is("on the day of birth", 10, x.notified(1));
            x.tick(1);
            is("on day 1", 11, x.notified(2));
            is("due day of debt 1", 10, x.look(1, DUE_DAY));
            x.tick(100000);
            x.debt(1, 0);
            is("on the last day", 100010, x.notified(3));
        });
        test("A debt that is still born on day 1096 behind its birth, as days go by, is FALLEN", () -> {
            DebtRows x = new DebtRows();
            x.debt(100, 0);
            x.tick(1);
            x.debt(100, 0);
            x.tick(1094);
            is("day 1095", 0, x.tick(1095));
            is("born", BORN, x.look(1, STATE));
            is("day 1096", 1, x.tick(1096));
            is("the older has fallen", FALLEN, x.look(1, STATE));
            is("the younger is born", BORN, x.look(2, STATE));
            is("far behind", 1, x.tick(50000));
            is("the younger has fallen", FALLEN, x.look(2, STATE));
            is("none falls twice", 0, x.tick(100000));
        });
        test("still born on day 1096: at the end of days", () -> {
            DebtRows x = new DebtRows();
            x.tick(98904);
            x.debt(100, 0);
            x.tick(98905);
            x.debt(100, 0);
            is("day 1096 is the last day", 1, x.tick(100000));
            is("fallen on it", FALLEN, x.look(1, STATE));
            is("day 1095 is the last day", BORN, x.look(2, STATE));
            is("and can be notified", 100010, x.notified(2));
        });
        test("no such debt (notified)", () -> {
            argument("without any debt", () -> new DebtRows().notified(1));
            DebtRows x = two();
            for (int debt : NO_DEBT_OF_TWO) {
                argument("debt " + debt, () -> x.notified(debt));
            }
            is("debt 2", 10, x.notified(2));
        });
        for (int from = BORN; from <= WRITTEN_OFF; from++) {
            int now = from;
            test("0 if it is not BORN: in state " + now, () -> {
                DebtRows x = inState(now);
                is("notified", now == BORN ? 10 : 0, x.notified(1));
                is("state", now == BORN ? NOTIFIED : now, x.look(1, STATE));
                is("due day", now == FALLEN ? DebtRows.NONE : 10, x.look(1, DUE_DAY));
            });
        }
    }

    private static void daysOfInterest() {
        test("INTEREST runs on each day behind that from which it runs: from its DUE day", () -> {
            DebtRows x = dear(365);
            x.tick(9);
            is("the day ahead of the due day", 0, x.due(1, INTEREST));
            x.tick(10);
            is("the due day", 0, x.due(1, INTEREST));
            x.tick(11);
            is("a day behind it", 1, x.due(1, INTEREST));
            x.tick(12);
            is("two days behind it", 2, x.due(1, INTEREST));
        });
        test("while it is NOTIFIED: a debt that is born has none", () -> {
            DebtRows x = new DebtRows();
            x.rate(1, 1, 1);
            x.debt(36500, 0);
            x.tick(1000);
            is("born", 0, x.due(1, INTEREST));
            x.notified(1);
            x.tick(1010);
            is("nothing of the days ahead of it", 0, x.due(1, INTEREST));
            x.tick(1011);
            is("notified", 100, x.due(1, INTEREST));
        });
        test("not DEFERRED", () -> {
            DebtRows x = dear(365);
            x.tick(12);
            x.instalments(1, 2);
            is("the day on which it is told still counts", 2, x.due(1, INTEREST));
            x.tick(13);
            is("the next one no more", 2, x.due(1, INTEREST));
        });
        test("not SUSPENDED", () -> {
            DebtRows x = dear(365);
            x.tick(12);
            x.appeal(1);
            is("the day of the appeal still counts", 2, x.due(1, INTEREST));
            x.tick(13);
            is("the next one no more", 2, x.due(1, INTEREST));
        });
        test("behind a deferral that ends from the day on which that ended", () -> {
            DebtRows x = dear(365);
            x.tick(12);
            x.instalments(1, 2);
            x.tick(42);
            is("the last day of the deferral", 2, x.due(1, INTEREST));
            x.tick(43);
            is("the day on which it ended", 2, x.due(1, INTEREST));
            x.tick(44);
            is("a day behind it", 3, x.due(1, INTEREST));
        });
        test("from the day on which that ended: told much later", () -> {
            DebtRows x = dear(365);
            x.tick(12);
            x.instalments(1, 2);
            x.tick(143);
            is("days 44 .. 143", 2 + 100, x.due(1, INTEREST));
        });
        test("behind a suspension that ends from the day on which that ended", () -> {
            DebtRows x = dear(365);
            x.tick(12);
            x.appeal(1);
            x.tick(40);
            x.decide(1, false);
            is("the day on which it ended", 2, x.due(1, INTEREST));
            x.tick(41);
            is("a day behind it", 3, x.due(1, INTEREST));
        });
        for (int day = 8; day <= 12; day++) {
            int ends = day;
            test("if that is later: a suspension that ends on day " + ends + ", due on day 10", () -> {
                DebtRows x = dear(365);
                x.appeal(1);
                x.tick(ends);
                x.decide(1, false);
                x.tick(20);
                is("interest on day 20", 20 - Math.max(10, ends), x.due(1, INTEREST));
            });
        }
        test("up to TODAY: a debt that was deferred ahead of its due day", () -> {
            DebtRows x = dear(365);
            x.instalments(1, 2);
            x.tick(31);
            is("ended on day 31", NOTIFIED, x.look(1, STATE));
            is("on that day", 0, x.due(1, INTEREST));
            x.tick(32);
            is("a day behind it", 1, x.due(1, INTEREST));
        });
    }

    private static void roundingOfInterest() {
        test("FLOOR(OPEN * days * up / (down * 365))", () -> {
            for (long cents = 364; cents <= 366; cents++) {
                DebtRows x = dear(cents);
                x.tick(11);
                is("a day of " + cents, cents / 365, x.due(1, INTEREST));
                x.tick(12);
                is("two days of " + cents, cents * 2 / 365, x.due(1, INTEREST));
            }
        });
        test("FLOOR: with up and down", () -> {
            DebtRows x = plain(1000);
            x.rate(11, 73, 1000);
            x.tick(14);
            is("four days: 4 / 5 of a cent", 0, x.due(1, INTEREST));
            x.tick(15);
            is("five days: a cent", 1, x.due(1, INTEREST));
            x.tick(19);
            is("nine days: 9 / 5 cents", 1, x.due(1, INTEREST));
            x.tick(20);
            is("ten days: two cents", 2, x.due(1, INTEREST));
        });
        test("FLOOR: the largest sum, time and rate", () -> {
            DebtRows x = new DebtRows();
            x.rate(1, 1000, 1000);
            x.debt(1000000000L, 0);
            x.notified(1);
            x.tick(100000);
            is("interest", 1000000000L * 99990 / 365, x.due(1, INTEREST));
        });
        test("FLOOR: the least rate, and a rate of 0", () -> {
            DebtRows x = plain(1000);
            x.rate(1, 1, 1000);
            x.tick(10 + 364);
            is("364 days", 0, x.due(1, INTEREST));
            x.tick(10 + 365);
            is("365 days", 1, x.due(1, INTEREST));
            x.rate(10 + 366, 0, 1000);
            x.tick(100000);
            is("a rate of 0 from then on", 1, x.due(1, INTEREST));
        });
        test("it is fixed by a payment of it", () -> {
            DebtRows x = dear(400);
            x.tick(11);
            x.pay(0, 1);
            is("a cent is paid", 1, x.due(1, INTEREST_PAID));
            x.tick(12);
            is("each day by itself", 1, x.due(1, INTEREST));
            x.tick(21);
            is("ten days behind the payment", 400 * 10 / 365, x.due(1, INTEREST));
        });
        test("one sum OPEN", () -> {
            DebtRows x = dear(730);
            x.tick(11);
            x.pay(0, 2 + 365);
            is("open", 365, x.due(1, OPEN));
            x.tick(13);
            is("of what is open now", 2, x.due(1, INTEREST));
        });
        test("it is fixed by the end of being NOTIFIED: by instalments", () -> {
            DebtRows x = dear(700);
            x.tick(11);
            x.instalments(1, 2);
            x.tick(43);
            is("700 and 700 of 365", 1 + 1, x.due(1, INTEREST));
        });
        test("it is fixed by the end of being NOTIFIED: by an appeal", () -> {
            DebtRows x = dear(700);
            x.tick(11);
            x.appeal(1);
            x.decide(1, false);
            x.tick(12);
            is("700 and 700 of 365", 1 + 1, x.due(1, INTEREST));
        });
        test("and with each next row", () -> {
            DebtRows x = dear(700);
            x.rate(12, 1, 1);
            x.tick(11);
            is("one day", 1, x.due(1, INTEREST));
            x.tick(12);
            is("700 and 700 of 365", 1 + 1, x.due(1, INTEREST));
            x.tick(13);
            is("700 and 1400 of 365", 1 + 3, x.due(1, INTEREST));
        });
    }

    /** What must not end the days that are counted together: 700 twice is 3 cents, once and once 2. */
    private static void whatDoesNotFixInterest() {
        test("these days end: not as days go by, nor by a question", () -> {
            DebtRows x = dear(700);
            x.tick(11);
            x.tick(11);
            is("one day", 1, x.due(1, INTEREST));
            x.recourse(1, 0, 2);
            x.look(1, STATE);
            x.sum(1);
            x.tick(12);
            is("two days", 3, x.due(1, INTEREST));
        });
        test("these days end: not by what is refused", () -> {
            DebtRows x = dear(700);
            x.tick(11);
            x.notified(1);
            x.debtor(1, 1);
            x.decide(1, true);
            x.decide(1, false);
            argument("instalments(1, 13)", () -> x.instalments(1, 13));
            argument("pay(0, 0)", () -> x.pay(0, 0));
            x.tick(12);
            is("two days", 3, x.due(1, INTEREST));
        });
        test("these days end: not by a payment that does not reach it", () -> {
            DebtRows x = new DebtRows();
            x.rate(1, 1, 1);
            x.debt(100, 0);
            x.debt(700, 0);
            x.notified(1);
            x.notified(2);
            x.tick(11);
            is("debt 1 alone", 1, x.pay(0, 100));
            is("somebody who owes nothing", 0, x.pay(5, 100));
            x.tick(12);
            is("two days", 3, x.due(2, INTEREST));
        });
        test("these days end: not by another debt's end of being notified", () -> {
            DebtRows x = new DebtRows();
            x.rate(1, 1, 1);
            x.debt(100, 0);
            x.debt(700, 0);
            x.notified(1);
            x.notified(2);
            x.tick(11);
            x.instalments(1, 2);
            x.appeal(1);
            x.tick(12);
            is("two days", 3, x.due(2, INTEREST));
        });
        test("these days end: not by a row that is told, ahead of its day", () -> {
            DebtRows x = dear(700);
            x.tick(11);
            x.rate(13, 1, 1);
            x.tick(12);
            is("two days", 3, x.due(1, INTEREST));
        });
        test("these days end: not twice by two rows from one day", () -> {
            DebtRows x = dear(700);
            x.rate(12, 1, 1);
            x.rate(12, 1, 1);
            x.tick(13);
            is("700 and 1400 of 365", 1 + 3, x.due(1, INTEREST));
        });
    }

    private static void payments() {
        test("the cents are not 1 .. 1000000000 (pay)", () -> {
            DebtRows x = new DebtRows();
            for (long cents : NO_SUM) {
                argument("pay of " + cents, () -> x.pay(3, cents));
            }
            is("pay of 1", 0, x.pay(3, 1));
            is("credit", 1, x.sum(23));
            is("pay of 1000000000", 0, x.pay(3, 1000000000L));
            is("credit", 1000000001L, x.sum(23));
        });
        test("what is left is their CREDIT: beyond an int", () -> {
            DebtRows x = new DebtRows();
            for (int i = 0; i < 500; i++) {
                x.pay(15, 1000000000L);
            }
            is("credit", 500000000000L, x.sum(35));
            is("of nobody else", 0, x.sum(34));
        });
        test("by number", () -> {
            DebtRows x = two();
            x.notified(2);
            x.notified(1);
            is("one less than the first", 1, x.pay(0, 80));
            is("the first", 20, x.due(1, OPEN));
            is("the second", 100, x.due(2, OPEN));
        });
        test("by number, first INTEREST, then what is OPEN: of each debt ahead of the next one's interest", () -> {
            for (int more = -20; more <= 3; more++) {
                DebtRows x = new DebtRows();
                x.rate(1, 1, 1);
                x.debt(365, 0);
                x.debt(730, 0);
                x.notified(1);
                x.notified(2);
                x.tick(13);
                is("pay of " + (3 + 365 + more), more > 0 ? 2 : 1, x.pay(0, 3 + 365 + more));
                is("interest of the first", 3, x.due(1, INTEREST_PAID));
                is("open of the first", more < -10 ? -more : 0, x.due(1, OPEN));
                is("interest paid of the second", Math.max(0, more), x.due(2, INTEREST_PAID));
                is("interest left of the second", 6 - Math.max(0, more), x.due(2, INTEREST));
                is("open of the second", 730, x.due(2, OPEN));
            }
        });
        test("somebody pays so many cents TODAY: interest of this very day is paid, that of the next is not", () -> {
            DebtRows x = dear(36500);
            x.tick(11);
            x.pay(0, 500);
            is("interest of the day", 100, x.due(1, INTEREST_PAID));
            is("nothing more of it", 0, x.due(1, INTEREST));
            is("open", 36100, x.due(1, OPEN));
            x.tick(12);
            is("the next day, of what is open", 36100 / 365, x.due(1, INTEREST));
        });
        test("as far as it goes: how many debts it touched", () -> {
            for (int cents = 99; cents <= 101; cents++) {
                DebtRows x = two();
                x.notified(1);
                x.notified(2);
                is("pay of " + cents, cents > 100 ? 2 : 1, x.pay(0, cents));
                is("the second's open", cents > 100 ? 99 : 100, x.due(2, OPEN));
            }
        });
        test("what is left is their CREDIT", () -> {
            for (int cents = 100; cents <= 101; cents++) {
                DebtRows x = plain(100);
                is("pay of " + cents, 1, x.pay(0, cents));
                is("credit", cents - 100, x.sum(20));
                is("paid of what was open", 100, x.recourse(1, 0, 0));
            }
        });
        test("first INTEREST, then what is OPEN", () -> {
            for (int cents = 2; cents <= 4; cents++) {
                DebtRows x = dear(365);
                x.tick(13);
                is("pay of " + cents, 1, x.pay(0, cents));
                is("interest paid", Math.min(3, cents), x.due(1, INTEREST_PAID));
                is("interest left", Math.max(0, 3 - cents), x.due(1, INTEREST));
                is("open", 365 - Math.max(0, cents - 3), x.due(1, OPEN));
            }
        });
        test("of the debts of which they are a DEBTOR", () -> {
            DebtRows x = new DebtRows();
            x.debt(100, 0);
            for (int who = 1; who <= 3; who++) {
                x.debtor(1, who);
            }
            x.notified(1);
            is("somebody else", 0, x.pay(4, 10));
            for (int who = 0; who <= 3; who++) {
                is("debtor " + who, 1, x.pay(who, 10 + who));
                is("paid by " + who, 10 + who, x.recourse(1, who, 0));
            }
            is("open", 100 - 46, x.due(1, OPEN));
        });
        for (int from = BORN; from <= WRITTEN_OFF; from++) {
            int now = from;
            test("and which are NOTIFIED or DEFERRED: in state " + now, () -> {
                DebtRows x = inState(now);
                boolean payable = now == NOTIFIED || now == DEFERRED;
                long open = x.due(1, OPEN);
                is("touched", payable ? 1 : 0, x.pay(0, 50));
                is("open", payable ? open - 50 : open, x.due(1, OPEN));
                is("credit", payable ? 0 : 50, x.sum(20));
                is("state", now, x.look(1, STATE));
            });
        }
    }

    private static void endsByPayment() {
        test("A debt without anything OPEN and without INTEREST is PAID", () -> {
            DebtRows x = dear(36500);
            x.tick(11);
            x.pay(0, 36500 + 100);
            is("state", PAID, x.look(1, STATE));
            is("no credit", 0, x.sum(20));
            is("nothing lost", 0, x.due(1, LOST));
            x.tick(100000);
            is("no interest any more", 0, x.due(1, INTEREST));
        });
        for (int left = 0; left <= 12; left++) {
            int open = left;
            int want = open == 0 ? PAID : open <= 10 ? WRITTEN_OFF : NOTIFIED;
            test("at most 10 cents are OPEN (and something is OPEN): " + open, () -> {
                DebtRows x = plain(500);
                x.pay(0, 500 - open);
                is("state", want, x.look(1, STATE));
                is("lost", want == WRITTEN_OFF ? open : 0, x.due(1, LOST));
                is("open", want == NOTIFIED ? open : 0, x.due(1, OPEN));
            });
            test("at most 10 cents are OPEN: DEFERRED, " + open, () -> {
                DebtRows x = plain(500);
                x.instalments(1, 2);
                x.pay(0, 500 - open);
                is("state", want == NOTIFIED ? DEFERRED : want, x.look(1, STATE));
                is("lost", want == WRITTEN_OFF ? open : 0, x.due(1, LOST));
            });
        }
        test("and no INTEREST is left", () -> {
            DebtRows x = dear(10);
            x.tick(10 + 73);
            is("interest", 2, x.due(1, INTEREST));
            x.pay(0, 1);
            is("a cent of interest is left", NOTIFIED, x.look(1, STATE));
            is("nothing is lost", 0, x.due(1, LOST));
            x.pay(0, 1);
            is("no interest is left", WRITTEN_OFF, x.look(1, STATE));
            is("lost", 10, x.due(1, LOST));
        });
        test("and no INTEREST is left: 11 cents OPEN", () -> {
            DebtRows x = dear(11);
            x.tick(10 + 34);
            is("interest", 1, x.due(1, INTEREST));
            x.pay(0, 1);
            is("11 are open", NOTIFIED, x.look(1, STATE));
            x.pay(0, 1);
            is("10 are open", WRITTEN_OFF, x.look(1, STATE));
        });
        test("behind a payment: not ahead of one", () -> {
            DebtRows x = plain(10);
            x.tick(20);
            is("small from birth on", NOTIFIED, x.look(1, STATE));
            x.instalments(1, 2);
            is("deferred", DEFERRED, x.look(1, STATE));
            x.appeal(1);
            x.decide(1, false);
            is("notified again", NOTIFIED, x.look(1, STATE));
            is("open", 10, x.due(1, OPEN));
            x.pay(0, 1);
            is("behind a payment", WRITTEN_OFF, x.look(1, STATE));
            is("lost", 9, x.due(1, LOST));
        });
        test("behind a payment: each debt that it touched by itself", () -> {
            DebtRows x = two();
            x.notified(1);
            x.notified(2);
            is("touched", 2, x.pay(0, 100 + 90));
            is("the first is paid", PAID, x.look(1, STATE));
            is("the second is written off", WRITTEN_OFF, x.look(2, STATE));
            is("lost in all", 10, x.sum(3));
        });
    }

    private static void instalments() {
        test("n is not 2 .. 12", () -> {
            for (int n = 2; n <= 12; n++) {
                is("n " + n, 1, plain(1000).instalments(1, n));
            }
            for (int n : new int[] {MIN, -1, 0, 1, 13, MAX}) {
                DebtRows x = plain(1000);
                argument("n " + n, () -> x.instalments(1, n));
                is("state", NOTIFIED, x.look(1, STATE));
            }
        });
        test("no such debt (instalments)", () -> {
            argument("without any debt", () -> new DebtRows().instalments(1, 2));
            DebtRows x = two();
            x.notified(2);
            for (int debt : NO_DEBT_OF_TWO) {
                argument("debt " + debt, () -> x.instalments(debt, 2));
            }
            is("debt 2", 1, x.instalments(2, 2));
        });
        for (int from = BORN; from <= WRITTEN_OFF; from++) {
            int now = from;
            test("0 if it is not NOTIFIED: in state " + now, () -> {
                DebtRows x = inState(now);
                argument("n 1", () -> x.instalments(1, 1));
                argument("n 13", () -> x.instalments(1, 13));
                is("n 2", now == NOTIFIED ? 1 : 0, x.instalments(1, 2));
                is("state", now == NOTIFIED ? DEFERRED : now, x.look(1, STATE));
            });
        }
        test("OPEN0 being what is OPEN when it is told", () -> {
            for (int less = 0; less <= 1; less++) {
                DebtRows x = plain(1000);
                x.pay(0, 399);
                x.instalments(1, 2);
                x.pay(0, 301 - less);
                is("on day 31, 300 of 601 are to be open", less, x.tick(31));
            }
        });
        test("0 if it is not NOTIFIED: told again it does not begin anew", () -> {
            DebtRows x = plain(1000);
            x.instalments(1, 2);
            x.tick(20);
            is("again", 0, x.instalments(1, 12));
            is("the first day counts", 1, x.tick(31));
        });
        test("0 if it is not NOTIFIED: told again it keeps its limits", () -> {
            DebtRows x = plain(1000);
            x.instalments(1, 2);
            x.pay(0, 500);
            is("again", 0, x.instalments(1, 12));
            is("half of what was open first", 0, x.tick(31));
            is("half of the time is over", 0, x.tick(60));
            is("all of the time is over", 1, x.tick(61));
        });
        test("DEFERRED is a debt that is NOTIFIED: again, behind one that was missed", () -> {
            DebtRows x = plain(1000);
            x.instalments(1, 2);
            x.tick(31);
            is("again", 1, x.instalments(1, 2));
            is("by the end of day 61", 0, x.tick(61));
            is("behind it", 1, x.tick(62));
        });
    }

    private static void limitsOfInstalments() {
        for (int n = 2; n <= 12; n++) {
            for (int k = 1; k < n; k++) {
                int parts = n;
                int part = k;
                test("FLOOR(OPEN0 * (n - k) / n) or less: n " + n + ", k " + k, () -> limit(parts, part));
            }
            int parts = n;
            test("by the end of day TODAY + 30 * k: the last of " + n, () -> {
                DebtRows x = plain(1000003);
                x.instalments(1, parts);
                x.pay(0, 1000003 - 11);
                is("on its day", 0, x.tick(30 * parts));
                is("a day behind it", 1, x.tick(30 * parts + 1));
            });
        }
        test("FLOOR(OPEN0 * (n - k) / n): the largest sum", () -> {
            for (int less = 0; less <= 1; less++) {
                DebtRows x = plain(1000000000L);
                x.instalments(1, 12);
                x.pay(0, 1000000000L - 916666666L - less);
                is("916666666 may be open behind day 30, and " + less + " more are", less, x.tick(31));
            }
        });
        test("FLOOR(OPEN0 * (n - k) / n): a debt of one cent", () -> {
            DebtRows x = plain(1);
            x.instalments(1, 12);
            is("by day 30", 0, x.tick(30));
            is("nothing may be open behind it", 1, x.tick(31));
        });
        test("As days go by, on the first day behind one by which more is OPEN: counted once", () -> {
            DebtRows x = plain(1200);
            x.instalments(1, 12);
            is("all twelve missed", 1, x.tick(5000));
            is("no more", 0, x.tick(5001));
            is("state", NOTIFIED, x.look(1, STATE));
        });
        test("by the end of day TODAY + 30 * k: paid on that day", () -> {
            DebtRows x = plain(900);
            x.tick(7);
            x.instalments(1, 3);
            is("day 37", 0, x.tick(37));
            x.pay(0, 300);
            is("day 38", 0, x.tick(38));
            is("day 67", 0, x.tick(67));
            x.pay(0, 300);
            is("day 97", 0, x.tick(97));
            x.pay(0, 300);
            is("state", PAID, x.look(1, STATE));
            is("no deferral any more", 0, x.tick(98));
        });
        test("NOTIFIED again on that day: at the end of days", () -> {
            for (int told = 99969; told <= 99970; told++) {
                DebtRows x = new DebtRows();
                x.tick(told);
                x.debt(1000, 0);
                x.notified(1);
                x.instalments(1, 2);
                is("told on day " + told, told == 99969 ? 1 : 0, x.tick(100000));
                is("state", told == 99969 ? NOTIFIED : DEFERRED, x.look(1, STATE));
            }
        });
        test("INTEREST that was fixed stays; it is to be paid as well", () -> {
            DebtRows x = dear(36500);
            x.tick(11);
            x.instalments(1, 2);
            x.pay(0, 100 + 18249);
            is("interest is paid", 100, x.due(1, INTEREST_PAID));
            is("18251 are open", 18251, x.due(1, OPEN));
            is("18250 or less by day 41", 1, x.tick(42));
        });
    }

    private static void limit(int n, int k) {
        long limit = 1000003L * (n - k) / n;
        DebtRows kept = plain(1000003);
        kept.instalments(1, n);
        kept.pay(0, 1000003 - limit);
        is("limit is kept to the next one's day", 0, kept.tick(30 * k + 30));
        is("and ends by the next one", 1, kept.tick(30 * k + 31));
        DebtRows missed = plain(1000003);
        missed.instalments(1, n);
        missed.pay(0, 1000003 - limit - 1);
        is("a cent more, on its day", 0, missed.tick(30 * k));
        is("a cent more, a day behind it", 1, missed.tick(30 * k + 1));
        is("state", NOTIFIED, missed.look(1, STATE));
    }

    private static void appeals() {
        for (int from = BORN; from <= WRITTEN_OFF; from++) {
            int now = from;
            boolean may = now == NOTIFIED || now == DEFERRED;
            test("0 if it is neither NOTIFIED nor DEFERRED: in state " + now, () -> {
                DebtRows x = inState(now);
                is("appeal", may ? 1 : 0, x.appeal(1));
                is("state", may ? SUSPENDED : now, x.look(1, STATE));
            });
        }
        test("no such debt (appeal)", () -> {
            argument("without any debt", () -> new DebtRows().appeal(1));
            DebtRows x = two();
            x.notified(2);
            for (int debt : NO_DEBT_OF_TWO) {
                argument("debt " + debt, () -> x.appeal(debt));
            }
            is("debt 2", 1, x.appeal(2));
        });
        test("SUSPENDED: no instalment is missed and nothing falls", () -> {
            DebtRows x = inState(DEFERRED);
            x.appeal(1);
            is("all days", 0, x.tick(100000));
            is("state", SUSPENDED, x.look(1, STATE));
            is("open", 1000, x.due(1, OPEN));
        });
    }

    private static void decisions() {
        for (int from = BORN; from <= WRITTEN_OFF; from++) {
            int now = from;
            test("NONE if it is not SUSPENDED: in state " + now, () -> {
                DebtRows x = inState(now);
                is("for", now == SUSPENDED ? 1000 : DebtRows.NONE, x.decide(1, true));
                is("state", now == SUSPENDED ? REMITTED : now, x.look(1, STATE));
                DebtRows y = inState(now);
                is("against", now == SUSPENDED ? 0 : DebtRows.NONE, y.decide(1, false));
                is("state", now == SUSPENDED ? NOTIFIED : now, y.look(1, STATE));
                is("open", inState(now).due(1, OPEN), y.due(1, OPEN));
            });
        }
        test("no such debt (decide)", () -> {
            argument("without any debt", () -> new DebtRows().decide(1, true));
            DebtRows x = two();
            x.notified(2);
            x.appeal(2);
            for (int debt : NO_DEBT_OF_TWO) {
                argument("for, debt " + debt, () -> x.decide(debt, true));
                argument("against, debt " + debt, () -> x.decide(debt, false));
            }
            is("debt 2", 0, x.decide(2, false));
        });
        test("against: NOTIFIED again TODAY (a deferral is over)", () -> {
            DebtRows x = inState(DEFERRED);
            x.appeal(1);
            x.tick(5);
            x.decide(1, false);
            is("no instalment is missed", 0, x.tick(31));
            is("state", NOTIFIED, x.look(1, STATE));
            is("its due day stays", 10, x.look(1, DUE_DAY));
            is("it can be deferred anew", 1, x.instalments(1, 2));
            is("day 61", 0, x.tick(61));
            is("day 62", 1, x.tick(62));
        });
    }

    private static void ticks() {
        test("IllegalArgumentException if it is ahead of TODAY, or above 100000", () -> {
            DebtRows x = new DebtRows();
            x.tick(10);
            argument("day 9", () -> x.tick(9));
            is("day 10", 0, x.tick(10));
            is("day 11", 0, x.tick(11));
            argument("day 10 again", () -> x.tick(10));
            argument("the least day", () -> x.tick(MIN));
            argument("the largest day", () -> x.tick(MAX));
            x.tick(100000);
            argument("day 99999", () -> x.tick(99999));
            is("day 100000", 0, x.tick(100000));
        });
        test("how many debts are FALLEN, or no more DEFERRED, by it", () -> {
            DebtRows x = new DebtRows();
            for (int i = 1; i <= 40; i++) {
                x.debt(1000, 0);
            }
            for (int i = 1; i <= 20; i++) {
                x.notified(i);
                x.instalments(i, 2);
            }
            is("none by day 30", 0, x.tick(30));
            is("the deferred ones by day 31", 20, x.tick(31));
            is("none by day 1095", 0, x.tick(1095));
            is("the born ones by day 1096", 20, x.tick(1096));
        });
        test("how many: both kinds by one call", () -> {
            DebtRows x = two();
            x.notified(2);
            x.instalments(2, 2);
            is("both", 2, x.tick(1096));
        });
    }

    private static void questions() {
        test("no such debt or side (due)", () -> {
            argument("without any debt", () -> new DebtRows().due(1, 0));
            DebtRows x = two();
            for (int debt : NO_DEBT_OF_TWO) {
                for (int side = 0; side <= 4; side++) {
                    int each = side;
                    argument("debt " + debt, () -> x.due(debt, each));
                }
            }
            argument("side -1", () -> x.due(2, -1));
            is("side 0", 100, x.due(2, 0));
            is("side 4", 0, x.due(2, 4));
            argument("side 5", () -> x.due(2, 5));
            argument("the least side", () -> x.due(2, MIN));
            argument("the largest side", () -> x.due(2, MAX));
        });
        test("no such debt, side, or they are none of its debtors (recourse)", () -> {
            argument("without any debt", () -> new DebtRows().recourse(1, 0, 0));
            DebtRows x = two();
            x.debtor(2, 5);
            for (int debt : NO_DEBT_OF_TWO) {
                argument("debt " + debt, () -> x.recourse(debt, 0, 0));
            }
            argument("side -1", () -> x.recourse(2, 5, -1));
            is("side 0", 0, x.recourse(2, 5, 0));
            is("side 2", 0, x.recourse(2, 5, 2));
            argument("side 3", () -> x.recourse(2, 5, 3));
            argument("the least side", () -> x.recourse(2, 5, MIN));
            argument("the largest side", () -> x.recourse(2, 5, MAX));
            argument("a debtor of another debt", () -> x.recourse(1, 5, 0));
            argument("nobody's debtor", () -> x.recourse(2, 4, 1));
        });
        test("no such debt, what or debtor (look)", () -> {
            index("without any debt", () -> new DebtRows().look(1, 0));
            DebtRows x = two();
            for (int debt : NO_DEBT_OF_TWO) {
                for (int what = 0; what <= 7; what++) {
                    int each = what;
                    index("debt " + debt, () -> x.look(debt, each));
                }
            }
            index("what -1", () -> x.look(2, -1));
            index("the least what", () -> x.look(2, MIN));
            index("the largest what", () -> x.look(2, MAX));
        });
        test("from 4 on debtor what - 4 (7 at most)", () -> {
            DebtRows x = new DebtRows();
            x.debt(100, 15);
            for (int debtors = 1; debtors <= 4; debtors++) {
                int behind = 4 + debtors;
                is("the last debtor", 16 - debtors, x.look(1, behind - 1));
                for (int what = behind; what <= 9; what++) {
                    int each = what;
                    index(debtors + " debtors, what " + what, () -> x.look(1, each));
                }
                x.debtor(1, 15 - debtors);
            }
        });
        test("its DUE day (NONE ahead of being notified)", () -> {
            DebtRows x = two();
            is("born", DebtRows.NONE, x.look(1, DUE_DAY));
            x.notified(1);
            is("notified", 10, x.look(1, DUE_DAY));
            is("the other one", DebtRows.NONE, x.look(2, DUE_DAY));
            x.tick(1096);
            is("fallen", DebtRows.NONE, x.look(2, DUE_DAY));
        });
    }

    private static void sums() {
        test("NONE for another what or person", () -> {
            DebtRows x = two();
            for (int who = 0; who <= 15; who++) {
                x.pay(who, 5 + who);
            }
            for (int what : new int[] {MIN, -20, -1, 8, 19, 36, 37, MAX}) {
                is("sum(" + what + ")", DebtRows.NONE, x.sum(what));
            }
            is("sum(0)", 200, x.sum(0));
            is("sum(7)", 0, x.sum(7));
            is("sum(20)", 5, x.sum(20));
            is("sum(35)", 20, x.sum(35));
        });
        test("all CENTS: beyond an int", () -> {
            DebtRows x = new DebtRows();
            for (int i = 1; i <= 40; i++) {
                x.debt(1000000000L, 0);
            }
            is("cents", 40000000000L, x.sum(0));
            is("open", 40000000000L, x.sum(1));
            for (int i = 1; i <= 20; i++) {
                x.notified(i);
                x.pay(0, 1000000000L);
            }
            is("paid", 20000000000L, x.sum(2));
            x.tick(1096);
            is("lost", 20000000000L, x.sum(3));
            is("open at last", 0, x.sum(1));
        });
        test("INTEREST paid: beyond an int", () -> {
            DebtRows x = dear(1000000000L);
            x.tick(100000);
            for (int i = 1; i <= 100; i++) {
                x.pay(0, 1000000000L);
            }
            is("of the debt", 100000000000L, x.due(1, INTEREST_PAID));
            is("in all", 100000000000L, x.sum(4));
            is("open", 1000000000L, x.sum(1));
        });
        test("NONE = -1", () -> is("NONE", -1, DebtRows.NONE));
        test("No debts, rates; TODAY 0", () -> {
            DebtRows x = new DebtRows();
            for (int what = -1; what <= 36; what++) {
                boolean told = what >= 0 && what <= 7 || what >= 20 && what <= 35;
                is("sum(" + what + ")", told ? 0 : DebtRows.NONE, x.sum(what));
            }
        });
        for (int from = BORN; from <= WRITTEN_OFF; from++) {
            int now = from;
            test("each cent of a debt ends somewhere: in state " + now, () -> {
                DebtRows x = inState(now);
                is("open, paid and lost", x.sum(0), x.sum(1) + x.sum(2) + x.sum(3));
                is("paid", now == PAID ? 1000 : now == WRITTEN_OFF ? 995 : 0, x.sum(2));
            });
        }
    }

    private static void shares() {
        for (int debtors = 1; debtors <= 4; debtors++) {
            for (int cents = 1; cents <= 9; cents++) {
                int number = debtors;
                int all = cents;
                test("FLOOR(CENTS / their number) each, the first ones one more: " + cents + " of " + debtors, () -> {
                    DebtRows x = new DebtRows();
                    x.debt(all, 7);
                    for (int i = 1; i < number; i++) {
                        x.debtor(1, 7 - i);
                    }
                    for (int i = 0; i < number; i++) {
                        is("share " + i, all / number + (i < all % number ? 1 : 0), x.recourse(1, 7 - i, 1));
                    }
                });
            }
        }
        test("SHARES: of the CENTS, not of what is OPEN, and in each state", () -> {
            for (int now = BORN; now <= WRITTEN_OFF; now++) {
                is("state " + now, 1000, inState(now).recourse(1, 0, 1));
            }
        });
        test("SHARES: of as many debtors as there are by then", () -> {
            DebtRows x = new DebtRows();
            x.debt(10, 7);
            long[] firsts = {10, 5, 4, 3};
            for (int debtors = 1; debtors <= 4; debtors++) {
                is("the first of " + debtors, firsts[debtors - 1], x.recourse(1, 7, 1));
                x.debtor(1, debtors);
            }
        });
        test("what they paid of what was OPEN, less their share, if that is above 0", () -> {
            for (int cents = 49; cents <= 52; cents++) {
                DebtRows x = new DebtRows();
                x.debt(101, 3);
                x.debtor(1, 4);
                x.notified(1);
                x.pay(3, cents);
                is("first: 51 is the share, paid " + cents, Math.max(0, cents - 51), x.recourse(1, 3, 2));
                DebtRows y = new DebtRows();
                y.debt(101, 3);
                y.debtor(1, 4);
                y.notified(1);
                y.pay(4, cents);
                is("second: 50 is the share, paid " + cents, Math.max(0, cents - 50), y.recourse(1, 4, 2));
                is("the other paid nothing", 0, y.recourse(1, 3, 2));
            }
        });
        test("what they paid of what was OPEN: by several payments", () -> {
            DebtRows x = new DebtRows();
            x.debt(100, 3);
            x.debtor(1, 4);
            x.notified(1);
            x.pay(3, 30);
            x.pay(4, 10);
            x.pay(3, 20);
            is("paid, up to the share", 50, x.recourse(1, 3, 0));
            is("no recourse", 0, x.recourse(1, 3, 2));
            x.pay(3, 1);
            is("paid, a cent above it", 51, x.recourse(1, 3, 0));
            is("a cent of recourse", 1, x.recourse(1, 3, 2));
            is("paid by the other", 10, x.recourse(1, 4, 0));
        });
        test("what they paid of what was OPEN: interest and credit are no part of it", () -> {
            DebtRows x = new DebtRows();
            x.rate(1, 1, 1);
            x.debt(36500, 3);
            x.debtor(1, 4);
            x.notified(1);
            x.tick(11);
            x.pay(4, 100);
            is("interest alone", 0, x.recourse(1, 4, 0));
            x.pay(4, 40000);
            is("no more than was open", 36500, x.recourse(1, 4, 0));
            is("recourse", 18250, x.recourse(1, 4, 2));
            is("the rest is credit", 3500, x.sum(24));
        });
    }

    private static void orderOfExceptions() {
        test("Of several exceptions the one told first is thrown: rate", () -> {
            DebtRows x = withRows(20);
            arithmetic("down 0, a wrong day, full", () -> x.rate(0, 0, 0));
            arithmetic("down 0, a wrong up, full", () -> x.rate(30, -1, 0));
            arithmetic("down 0, full", () -> x.rate(30, 0, 0));
            argument("a day ahead of the latest, full", () -> x.rate(19, 1, 1));
            argument("a day above the last, full", () -> x.rate(100001, 1, 1));
            argument("a wrong up, full", () -> x.rate(30, 2, 1));
            argument("up below 0, full", () -> x.rate(30, -1, 1));
            argument("down 1001, full", () -> x.rate(30, 1, 1001));
            argument("down below 0, full", () -> x.rate(30, 0, -1));
            state("full", () -> x.rate(30, 1, 1));
            x.tick(40);
            argument("today, full", () -> x.rate(40, 1, 1));
            arithmetic("today, down 0, full", () -> x.rate(40, 1, 0));
        });
        test("Of several exceptions the one told first is thrown: debt", () -> {
            DebtRows x = withDebts(40);
            argument("0 cents, full", () -> x.debt(0, 0));
            argument("too many cents, full", () -> x.debt(1000000001L, 0));
            argument("no person, full", () -> x.debt(1, 16));
            argument("no person -1, full", () -> x.debt(1, -1));
            state("full", () -> x.debt(1, 0));
        });
    }

    public static void main(String[] args) {
        days();
        people();
        rowsOfRates();
        ratesThatCount();
        births();
        jointDebtors();
        losses();
        notification();
        daysOfInterest();
        roundingOfInterest();
        whatDoesNotFixInterest();
        payments();
        endsByPayment();
        instalments();
        limitsOfInstalments();
        appeals();
        decisions();
        ticks();
        questions();
        sums();
        shares();
        orderOfExceptions();
        System.out.println(tests + " tests, "
                + (wrong == 0 ? "all answers are as due" : wrong + " answers are not as due"));
        if (wrong != 0) {
            System.exit(1);
        }
    }
}
