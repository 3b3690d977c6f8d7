import java.lang.reflect.Constructor;
import java.lang.reflect.Field;
import java.lang.reflect.Method;
import java.lang.reflect.Modifier;
import java.util.Arrays;
import java.util.Set;
import java.util.TreeSet;

/** For each promise of the document its ordinary answers, its edges and its wrong inputs. */
public final class DebtRowsPromises {
    private interface Call {
        long answer();
    }

    private static final int BORN = 0;
    private static final int NOTIFIED = 1;
    private static final int DEFERRED = 2;
    private static final int SUSPENDED = 3;
    private static final int PAID = 4;
    private static final int REMITTED = 5;
    private static final int FALLEN = 6;
    private static final int WRITTEN_OFF = 7;
    private static final int MIN = Integer.MIN_VALUE;
    private static final int MAX = Integer.MAX_VALUE;
    private static final Class<? extends Throwable> ARGUMENT = IllegalArgumentException.class;
    private static final Class<? extends Throwable> STATE = IllegalStateException.class;
    private static final Class<? extends Throwable> ARITHMETIC = ArithmeticException.class;
    private static final Class<? extends Throwable> INDEX = IndexOutOfBoundsException.class;

    private static int wrong = 0;
    private static String promise = "";

    private static void is(String call, long want, long got) {
        if (got != want) {
            wrong++;
            System.out.println(promise + ": " + call + " answered " + got + ", due is " + want);
        }
    }

    private static void is(String call, boolean want, boolean got) {
        is(call, want ? 1 : 0, got ? 1 : 0);
    }

    private static void fails(String call, Class<? extends Throwable> want, Call made) {
        String got;
        try {
            got = "answered " + made.answer();
        } catch (Throwable thrown) {
            if (thrown.getClass() == want) {
                return;
            }
            got = "threw " + thrown;
        }
        wrong++;
        System.out.println(promise + ": " + call + " " + got + ", due is " + want.getSimpleName());
    }

    /** One debt of person 0, notified on day 0, so that it is due on day 10. */
    private static DebtRows notifiedDebt(long cents) {
        DebtRows x = new DebtRows();
        x.debt(cents, 0);
        x.notified(1);
        return x;
    }

    /** The same, at a rate of one cent for each cent and year from day 1 on. */
    private static DebtRows dearDebt(long cents) {
        DebtRows x = new DebtRows();
        x.rate(1, 1, 1);
        x.debt(cents, 0);
        x.notified(1);
        return x;
    }

    /** What reflection tells of a member, in the words of the document. */
    private static String inShort(Object member) {
        return member.toString().replace("java.lang.", "").replace("DebtRows.", "");
    }

    private static void theFace() {
        promise = "the face";
        is("NONE", -1, DebtRows.NONE);
        Class<?> itself = DebtRows.class;
        is("public and final", Modifier.PUBLIC | Modifier.FINAL, itself.getModifiers());
        is("without a package", 0, itself.getPackageName().length());
        is("no class above it but Object", true, itself.getSuperclass() == Object.class);
        is("no interfaces", 0, itself.getInterfaces().length);
        Set<String> seen = new TreeSet<>();
        for (Method m : itself.getDeclaredMethods()) {
            if (!Modifier.isPrivate(m.getModifiers())) {
                seen.add(inShort(m));
            }
        }
        for (Field f : itself.getDeclaredFields()) {
            if (!Modifier.isPrivate(f.getModifiers())) {
                seen.add(inShort(f));
            }
        }
        for (Constructor<?> c : itself.getDeclaredConstructors()) {
            seen.add(inShort(c));
        }
        Set<String> face = new TreeSet<>(Arrays.asList(
                "public static final int NONE",
                "public DebtRows()",
                "public int rate(int,int,int)"
                        + " throws ArithmeticException,IllegalArgumentException,IllegalStateException",
                "public int debt(long,int) throws IllegalArgumentException,IllegalStateException",
                "public boolean debtor(int,int)",
                "public int notified(int) throws IllegalArgumentException",
                "public int pay(int,long) throws IllegalArgumentException",
                "public int instalments(int,int) throws IllegalArgumentException",
                "public int appeal(int) throws IllegalArgumentException",
                "public long decide(int,boolean) throws IllegalArgumentException",
                "public int tick(int) throws IllegalArgumentException",
                "public long due(int,int) throws IllegalArgumentException",
                "public long recourse(int,int,int) throws IllegalArgumentException",
                "public int look(int,int) throws IndexOutOfBoundsException",
                "public long sum(int)"));
        if (!seen.equals(face)) {
            wrong++;
            System.out.println("the face is " + seen + ", due is " + face);
        }
    }

    private static void aNewObject() {
        promise = "promise 1";
        DebtRows x = new DebtRows();
        for (int what = 0; what <= 7; what++) {
            is("sum(" + what + ")", 0, x.sum(what));
        }
        for (int who = 0; who < 16; who++) {
            is("sum(20 + " + who + ")", 0, x.sum(20 + who));
        }
        fails("look(1, 0)", INDEX, () -> x.look(1, 0));
        DebtRows y = new DebtRows();
        y.debt(5, 1);
        y.rate(1, 1, 2);
        y.pay(3, 7);
        y.tick(4);
        is("another object's debts", 0, x.sum(5));
        is("another object's day", 0, x.sum(6));
        is("another object's rates", 0, x.sum(7));
        is("another object's credit", 0, x.sum(23));
    }

    private static void rates() {
        promise = "promise 2";
        DebtRows x = new DebtRows();
        fails("from today", ARGUMENT, () -> x.rate(0, 1, 10));
        fails("from ahead of today", ARGUMENT, () -> x.rate(-1, 1, 10));
        fails("from too late", ARGUMENT, () -> x.rate(100001, 1, 10));
        fails("from the largest int", ARGUMENT, () -> x.rate(MAX, 1, 10));
        fails("down 0", ARITHMETIC, () -> x.rate(1, 0, 0));
        fails("down 0 ahead of all else", ARITHMETIC, () -> x.rate(0, -1, 0));
        fails("down below 0", ARGUMENT, () -> x.rate(1, 0, -1));
        fails("both below 0", ARGUMENT, () -> x.rate(1, -2, -1));
        fails("least down", ARGUMENT, () -> x.rate(1, MIN, MIN));
        fails("down 1001", ARGUMENT, () -> x.rate(1, 1, 1001));
        fails("up above down", ARGUMENT, () -> x.rate(1, 11, 10));
        fails("up below 0", ARGUMENT, () -> x.rate(1, -1, 10));
        is("rows behind all these", 0, x.sum(7));
        is("from 1", 1, x.rate(1, 0, 1));
        is("from the same day", 2, x.rate(1, 1, 1));
        x.tick(5);
        fails("from today 5", ARGUMENT, () -> x.rate(5, 1, 1));
        is("from 8", 3, x.rate(8, 1000, 1000));
        fails("ahead of the latest", ARGUMENT, () -> x.rate(7, 1, 1));
        for (int n = 4; n <= 20; n++) {
            is("row " + n, n, x.rate(100000, 0, 1000));
        }
        fails("row 21", STATE, () -> x.rate(100000, 0, 1));
        fails("row 21, ahead of the latest", ARGUMENT, () -> x.rate(99999, 0, 1));
        fails("row 21, down 1001", ARGUMENT, () -> x.rate(100000, 0, 1001));
        fails("row 21, up above down", ARGUMENT, () -> x.rate(100000, 2, 1));
        fails("row 21, down 0", ARITHMETIC, () -> x.rate(100000, 0, 0));
        is("rows at last", 20, x.sum(7));

        DebtRows one = new DebtRows();
        one.rate(8, 1, 1);
        fails("ahead of the only one", ARGUMENT, () -> one.rate(7, 1, 1));
        is("from the day of the only one", 2, one.rate(8, 1, 1));
    }

    private static void births() {
        promise = "promise 3";
        DebtRows x = new DebtRows();
        fails("0 cents", ARGUMENT, () -> x.debt(0, 0));
        fails("cents below 0", ARGUMENT, () -> x.debt(Long.MIN_VALUE, 0));
        fails("too many cents", ARGUMENT, () -> x.debt(1000000001L, 0));
        fails("cents beyond an int", ARGUMENT, () -> x.debt((1L << 32) + 1, 0));
        fails("person -1", ARGUMENT, () -> x.debt(1, -1));
        fails("person 16", ARGUMENT, () -> x.debt(1, 16));
        is("debts behind all these", 0, x.sum(5));
        x.tick(7);
        is("1 cent", 1, x.debt(1, 0));
        is("most cents", 2, x.debt(1000000000L, 15));
        is("state", BORN, x.look(2, 0));
        is("birth", 7, x.look(2, 1));
        is("due day", -1, x.look(2, 2));
        is("debtors", 1, x.look(2, 3));
        is("debtor", 15, x.look(2, 4));
        is("open", 1000000000L, x.due(2, 0));
        for (int n = 3; n <= 40; n++) {
            is("debt " + n, n, x.debt(n, n % 16));
        }
        fails("debt 41", STATE, () -> x.debt(1, 0));
        fails("debt 41 of 0 cents", ARGUMENT, () -> x.debt(0, 0));
        fails("debt 41 of nobody", ARGUMENT, () -> x.debt(1, 16));
        is("debts at last", 40, x.sum(5));
    }

    private static void jointDebtors() {
        promise = "promise 4";
        DebtRows x = new DebtRows();
        is("no debt 1", false, x.debtor(1, 0));
        x.debt(100, 3);
        is("no debt 0", false, x.debtor(0, 0));
        is("no debt 2", false, x.debtor(2, 0));
        is("no least debt", false, x.debtor(MIN, 0));
        is("no largest debt", false, x.debtor(MAX, 0));
        is("no person -1", false, x.debtor(1, -1));
        is("no person 16", false, x.debtor(1, 16));
        is("the first again", false, x.debtor(1, 3));
        is("second", true, x.debtor(1, 0));
        is("second again", false, x.debtor(1, 0));
        is("third", true, x.debtor(1, 15));
        is("debtors", 3, x.look(1, 3));
        is("fourth", true, x.debtor(1, 1));
        is("fifth", false, x.debtor(1, 2));
        is("order 0", 3, x.look(1, 4));
        is("order 1", 0, x.look(1, 5));
        is("order 2", 15, x.look(1, 6));
        is("order 3", 1, x.look(1, 7));
        x.debt(100, 3);
        x.notified(2);
        is("of a notified debt", false, x.debtor(2, 4));
        x.instalments(2, 2);
        is("of a deferred debt", false, x.debtor(2, 4));
        x.appeal(2);
        is("of a suspended debt", false, x.debtor(2, 4));
        x.tick(1096);
        is("of a fallen debt", false, x.debtor(1, 4));
        is("debtors of debt 2", 1, x.look(2, 3));
    }

    private static void notification() {
        promise = "promise 5";
        DebtRows x = new DebtRows();
        fails("no debt 1", ARGUMENT, () -> x.notified(1));
        x.tick(100);
        x.debt(100, 0);
        x.debt(100, 0);
        fails("no debt 0", ARGUMENT, () -> x.notified(0));
        fails("no debt 3", ARGUMENT, () -> x.notified(3));
        fails("no largest debt", ARGUMENT, () -> x.notified(MAX));
        is("on the last day, fallen", 0, x.tick(1195));
        is("on the last day", 1205, x.notified(1));
        is("due day", 1205, x.look(1, 2));
        is("state", NOTIFIED, x.look(1, 0));
        is("again", 0, x.notified(1));
        is("a day later, fallen", 1, x.tick(1196));
        is("a day later", 0, x.notified(2));
        is("fallen", FALLEN, x.look(2, 0));
        is("due day of a fallen one", -1, x.look(2, 2));
        is("due day told again", 1205, x.look(1, 2));
        x.tick(100000);
        x.debt(1, 0);
        is("on the last day of all", 100010, x.notified(3));
    }

    private static void payments() {
        promise = "promise 6";
        DebtRows x = new DebtRows();
        fails("person -1", ARGUMENT, () -> x.pay(-1, 1));
        fails("person 16", ARGUMENT, () -> x.pay(16, 1));
        fails("0 cents", ARGUMENT, () -> x.pay(0, 0));
        fails("cents below 0", ARGUMENT, () -> x.pay(0, -1));
        fails("too many cents", ARGUMENT, () -> x.pay(0, 1000000001L));
        fails("cents beyond an int", ARGUMENT, () -> x.pay(0, (1L << 32) + 1));
        is("credit behind all these", 0, x.sum(20));
        x.debt(100, 1);
        x.debt(200, 0);
        x.debt(300, 0);
        x.debt(400, 0);
        x.debt(500, 0);
        x.debtor(3, 1);
        x.notified(1);
        x.notified(3);
        x.notified(4);
        x.notified(5);
        x.instalments(4, 2);
        x.appeal(5);
        is("neither another's, born nor suspended ones", 2, x.pay(0, 650));
        is("another's", 100, x.due(1, 0));
        is("born", 200, x.due(2, 0));
        is("paid", 0, x.due(3, 0));
        is("paid state", PAID, x.look(3, 0));
        is("deferred", 50, x.due(4, 0));
        is("deferred state", DEFERRED, x.look(4, 0));
        is("suspended", 500, x.due(5, 0));
        is("no credit yet", 0, x.sum(20));
        is("most cents", 1, x.pay(0, 1000000000L));
        is("credit", 999999950L, x.sum(20));
        is("nothing to pay", 0, x.pay(0, 7));
        is("credit grows", 999999957L, x.sum(20));
        x.debt(50, 0);
        x.notified(6);
        is("credit pays nothing by itself", 50, x.due(6, 0));
        is("all of the first alone", 1, x.pay(1, 100));
        is("touched no more", PAID, x.look(1, 0));
    }

    private static void interestIsPaidFirst() {
        promise = "promise 6, interest";
        DebtRows x = dearDebt(36500);
        x.tick(12);
        is("interest of two days", 200, x.due(1, 1));
        is("a part of interest", 1, x.pay(0, 150));
        is("interest left", 50, x.due(1, 1));
        is("interest paid", 150, x.due(1, 4));
        is("open", 36500, x.due(1, 0));
        is("paid of what was open", 0, x.recourse(1, 0, 0));
        x.tick(13);
        is("interest of a day more", 150, x.due(1, 1));
        is("interest and open", 1, x.pay(0, 36650));
        is("paid", PAID, x.look(1, 0));
        is("interest paid in all", 300, x.due(1, 4));
        is("nothing lost", 0, x.due(1, 3));
        is("no credit", 0, x.sum(20));
        x.tick(400);
        is("no interest of a paid debt", 0, x.due(1, 1));
    }

    private static void smallSums() {
        promise = "promise 6, small sums";
        DebtRows x = notifiedDebt(100);
        x.pay(0, 89);
        is("11 left", NOTIFIED, x.look(1, 0));
        x.pay(0, 1);
        is("10 left", WRITTEN_OFF, x.look(1, 0));
        is("lost", 10, x.due(1, 3));
        is("open", 0, x.due(1, 0));
        is("nothing more to pay", 0, x.pay(0, 10));
        is("credit", 10, x.sum(20));

        DebtRows deferred = notifiedDebt(100);
        deferred.instalments(1, 2);
        deferred.pay(0, 99);
        is("deferred, 1 left", WRITTEN_OFF, deferred.look(1, 0));

        DebtRows whole = notifiedDebt(10);
        whole.debt(5, 0);
        whole.notified(2);
        whole.pay(0, 10);
        is("nothing left is no small sum", PAID, whole.look(1, 0));
        is("a small debt that the payment did not reach", NOTIFIED, whole.look(2, 0));

        DebtRows small = dearDebt(10);
        small.tick(83);
        is("interest of a small debt", 2, small.due(1, 1));
        small.pay(0, 1);
        is("interest is left", NOTIFIED, small.look(1, 0));
        small.pay(0, 1);
        is("no interest is left", WRITTEN_OFF, small.look(1, 0));
        is("lost of it", 10, small.due(1, 3));
    }

    private static void deferrals() {
        promise = "promise 7";
        DebtRows x = new DebtRows();
        fails("no debt", ARGUMENT, () -> x.instalments(1, 2));
        x.debt(1000, 0);
        fails("n 1", ARGUMENT, () -> x.instalments(1, 1));
        fails("n 13", ARGUMENT, () -> x.instalments(1, 13));
        fails("n least", ARGUMENT, () -> x.instalments(1, MIN));
        fails("no debt 0", ARGUMENT, () -> x.instalments(0, 2));
        is("born", 0, x.instalments(1, 2));
        x.notified(1);
        is("notified", 1, x.instalments(1, 12));
        is("state", DEFERRED, x.look(1, 0));
        is("again", 0, x.instalments(1, 2));
        x.appeal(1);
        is("suspended", 0, x.instalments(1, 2));
        x.decide(1, false);
        is("notified again", 1, x.instalments(1, 2));
        x.pay(0, 1000);
        is("paid", 0, x.instalments(1, 2));
        fails("paid, n 1", ARGUMENT, () -> x.instalments(1, 1));
    }

    private static void missedInstalments() {
        promise = "promise 7, missed";
        DebtRows x = notifiedDebt(1000);
        x.tick(5);
        x.instalments(1, 3);
        x.pay(0, 333);
        is("by the end of the day", 0, x.tick(35));
        is("667 are more than 666", 1, x.tick(36));
        is("notified again", NOTIFIED, x.look(1, 0));

        DebtRows kept = notifiedDebt(1000);
        kept.tick(5);
        kept.instalments(1, 3);
        is("day of the first", 0, kept.tick(35));
        kept.pay(0, 334);
        is("behind the first", 0, kept.tick(36));
        kept.pay(0, 333);
        is("behind the second", 0, kept.tick(66));
        is("day of the last", 0, kept.tick(95));
        is("behind the last", 1, kept.tick(96));

        DebtRows from = notifiedDebt(1000);
        from.pay(0, 400);
        from.instalments(1, 2);
        from.pay(0, 300);
        is("of what was open when told", 0, from.tick(31));
        is("all by the last", 1, from.tick(61));

        DebtRows most = notifiedDebt(1200);
        most.instalments(1, 12);
        for (int k = 1; k <= 12; k++) {
            most.tick(30 * k);
            is("instalment " + k, DEFERRED, most.look(1, 0));
            most.pay(0, 100);
        }
        is("all paid", PAID, most.look(1, 0));
        is("no deferral is left", 0, most.tick(1000));
    }

    private static void deferralsAndInterest() {
        promise = "promise 7, interest";
        DebtRows x = dearDebt(36500);
        x.tick(11);
        x.instalments(1, 2);
        is("fixed", 100, x.due(1, 1));
        x.tick(41);
        is("stays", 100, x.due(1, 1));
        is("ends on day 42, told on day 50", 1, x.tick(50));
        is("runs from day 42 on", 900, x.due(1, 1));
        is("fixed interest is paid first", 1, x.pay(0, 901));
        is("then what is open", 36499, x.due(1, 0));

        DebtRows early = dearDebt(36500);
        early.instalments(1, 2);
        early.appeal(1);
        early.tick(3);
        early.decide(1, false);
        early.tick(11);
        is("not ahead of the due day", 100, early.due(1, 1));
    }

    private static void appeals() {
        promise = "promise 8";
        DebtRows x = new DebtRows();
        fails("no debt", ARGUMENT, () -> x.appeal(1));
        x.debt(1000, 0);
        fails("no debt 0", ARGUMENT, () -> x.appeal(0));
        fails("no debt 2", ARGUMENT, () -> x.appeal(2));
        is("born", 0, x.appeal(1));
        x.notified(1);
        is("notified", 1, x.appeal(1));
        is("state", SUSPENDED, x.look(1, 0));
        is("again", 0, x.appeal(1));
        x.decide(1, false);
        x.instalments(1, 2);
        is("deferred", 1, x.appeal(1));
        is("no instalment is missed", 0, x.tick(2000));
        is("still suspended", SUSPENDED, x.look(1, 0));
        x.decide(1, true);
        is("remitted", 0, x.appeal(1));

        DebtRows y = dearDebt(36500);
        y.tick(12);
        y.appeal(1);
        y.tick(100);
        is("interest is fixed", 200, y.due(1, 1));
        is("nothing is paid of it", 0, y.pay(0, 5));
        is("credit instead", 5, y.sum(20));
    }

    private static void decisions() {
        promise = "promise 9";
        DebtRows x = dearDebt(36500);
        fails("no debt 0", ARGUMENT, () -> x.decide(0, true));
        fails("no debt 2", ARGUMENT, () -> x.decide(2, false));
        is("notified, for", -1, x.decide(1, true));
        is("notified, against", -1, x.decide(1, false));
        x.tick(12);
        x.appeal(1);
        x.tick(20);
        is("against", 0, x.decide(1, false));
        is("notified again", NOTIFIED, x.look(1, 0));
        is("due day stays", 10, x.look(1, 2));
        is("interest on that day", 200, x.due(1, 1));
        x.tick(21);
        is("interest of a day more", 300, x.due(1, 1));
        x.pay(0, 800);
        x.instalments(1, 2);
        is("deferred", -1, x.decide(1, true));
        x.appeal(1);
        is("for the debtor", 36000, x.decide(1, true));
        is("remitted", REMITTED, x.look(1, 0));
        is("lost", 36000, x.due(1, 3));
        is("open", 0, x.due(1, 0));
        is("again", -1, x.decide(1, true));

        DebtRows y = notifiedDebt(1000);
        y.instalments(1, 2);
        y.appeal(1);
        y.decide(1, false);
        is("the deferral is over", 0, y.tick(31));
        is("notified", NOTIFIED, y.look(1, 0));

        DebtRows z = dearDebt(36599);
        z.tick(11);
        z.appeal(1);
        z.decide(1, false);
        is("a day's interest", 100, z.due(1, 1));
        z.tick(12);
        is("two times of being notified, each rounded down", 200, z.due(1, 1));
        z.appeal(1);
        z.decide(1, true);
        is("interest that was not paid of a remitted debt", 200, z.due(1, 1));
    }

    private static void days() {
        promise = "promise 10";
        DebtRows x = new DebtRows();
        fails("below 0", ARGUMENT, () -> x.tick(-1));
        fails("too late", ARGUMENT, () -> x.tick(100001));
        fails("the largest int", ARGUMENT, () -> x.tick(MAX));
        is("today", 0, x.tick(0));
        is("day 5", 0, x.tick(5));
        fails("ahead of today", ARGUMENT, () -> x.tick(4));
        is("today is", 5, x.sum(6));
        x.debt(100, 0);
        x.debt(200, 0);
        x.debt(300, 0);
        x.debt(400, 0);
        x.notified(2);
        x.notified(3);
        x.instalments(3, 2);
        x.tick(30);
        x.debt(500, 0);
        is("1095 days: the deferral alone", 1, x.tick(1100));
        is("born", BORN, x.look(1, 0));
        is("1096 days", 2, x.tick(1101));
        is("fallen", FALLEN, x.look(1, 0));
        is("lost", 100, x.due(1, 3));
        is("open", 0, x.due(1, 0));
        is("notified ones stay", NOTIFIED, x.look(2, 0));
        is("born later", BORN, x.look(5, 0));
        is("the last day", 1, x.tick(100000));
        is("the last day again", 0, x.tick(100000));

        DebtRows both = new DebtRows();
        both.debt(100, 0);
        both.debt(100, 0);
        both.notified(2);
        both.instalments(2, 2);
        is("a fallen one and a deferral", 2, both.tick(5000));
    }

    private static void sides() {
        promise = "promise 11";
        DebtRows x = dearDebt(36500);
        fails("side -1", ARGUMENT, () -> x.due(1, -1));
        fails("side 5", ARGUMENT, () -> x.due(1, 5));
        fails("no debt 0", ARGUMENT, () -> x.due(0, 0));
        fails("no debt 2", ARGUMENT, () -> x.due(2, 0));
        fails("no least debt", ARGUMENT, () -> x.due(MIN, 0));
        x.tick(10);
        is("no interest on the due day", 0, x.due(1, 1));
        x.tick(11);
        is("interest a day later", 100, x.due(1, 1));
        x.pay(0, 600);
        is("open", 36000, x.due(1, 0));
        is("interest", 0, x.due(1, 1));
        is("cents", 36500, x.due(1, 2));
        is("lost", 0, x.due(1, 3));
        is("interest paid", 100, x.due(1, 4));
        x.tick(84);
        is("interest of what is open", 7200, x.due(1, 1));

        DebtRows born = new DebtRows();
        born.rate(1, 1, 1);
        born.debt(36500, 0);
        born.tick(1000);
        is("no interest of a born debt", 0, born.due(1, 1));
        born.tick(1096);
        is("no interest of a fallen debt", 0, born.due(1, 1));
        is("lost of it", 36500, born.due(1, 3));
    }

    private static void interestByRows() {
        promise = "promise 11, rates";
        DebtRows x = new DebtRows();
        x.debt(36599, 0);
        x.notified(1);
        x.tick(12);
        is("ahead of the first rate", 0, x.due(1, 1));
        x.rate(14, 1, 1);
        x.rate(14, 1, 2);
        x.tick(13);
        is("the day ahead of the first rate", 0, x.due(1, 1));
        x.tick(14);
        is("the later told counts alone", 50, x.due(1, 1));
        x.tick(17);
        is("rounded once for four days", 200, x.due(1, 1));
        x.rate(19, 1, 2);
        x.tick(18);
        is("rounded once for five days", 250, x.due(1, 1));
        x.tick(19);
        is("each next row is rounded by itself", 300, x.due(1, 1));
        x.tick(20);
        is("two days of the next row", 350, x.due(1, 1));
        x.rate(21, 0, 1);
        x.tick(500);
        is("a rate of 0", 350, x.due(1, 1));

        DebtRows y = new DebtRows();
        y.rate(12, 1, 1);
        y.rate(13, 1, 1);
        y.rate(13, 1, 5);
        y.debt(36500, 0);
        y.notified(1);
        y.tick(15);
        is("rows in one go", 100 + 3 * 20, y.due(1, 1));

        DebtRows paid = dearDebt(36599);
        paid.tick(11);
        paid.pay(0, 1);
        paid.tick(12);
        is("a payment of interest ends the days", 99 + 100, paid.due(1, 1));

        DebtRows whole = dearDebt(36599);
        whole.tick(15);
        is("days without a payment", 501, whole.due(1, 1));

        DebtRows most = dearDebt(1000000000L);
        most.tick(100000);
        is("the most interest", 1000000000L * 99990 / 365, most.due(1, 1));
    }

    private static void sharesAndRecourse() {
        promise = "promise 12";
        DebtRows x = new DebtRows();
        x.debt(103, 5);
        x.debtor(1, 2);
        x.debtor(1, 9);
        x.debtor(1, 0);
        is("share 0", 26, x.recourse(1, 5, 1));
        is("share 1", 26, x.recourse(1, 2, 1));
        is("share 2", 26, x.recourse(1, 9, 1));
        is("share 3", 25, x.recourse(1, 0, 1));
        fails("no debt 0", ARGUMENT, () -> x.recourse(0, 5, 0));
        fails("no debt 2", ARGUMENT, () -> x.recourse(2, 5, 0));
        fails("side -1", ARGUMENT, () -> x.recourse(1, 5, -1));
        fails("side 3", ARGUMENT, () -> x.recourse(1, 5, 3));
        fails("no debtor", ARGUMENT, () -> x.recourse(1, 1, 0));
        fails("person -1", ARGUMENT, () -> x.recourse(1, -1, 0));
        fails("person 16", ARGUMENT, () -> x.recourse(1, 16, 0));
        x.notified(1);
        x.pay(2, 26);
        is("no more than the share", 0, x.recourse(1, 2, 2));
        x.pay(2, 4);
        x.pay(0, 20);
        is("paid", 30, x.recourse(1, 2, 0));
        is("above the share", 4, x.recourse(1, 2, 2));
        is("below the share", 0, x.recourse(1, 0, 2));
        is("paid nothing", 0, x.recourse(1, 5, 0));
        x.pay(9, 1000);
        is("no more than was open", 53, x.recourse(1, 9, 0));
        is("recourse of a paid debt", 27, x.recourse(1, 9, 2));
        is("shares are of all cents", 26, x.recourse(1, 9, 1));

        DebtRows few = new DebtRows();
        few.debt(1, 3);
        is("alone", 1, few.recourse(1, 3, 1));
        few.debtor(1, 4);
        is("the first has the cent", 1, few.recourse(1, 3, 1));
        is("the second has none", 0, few.recourse(1, 4, 1));

        DebtRows dear = dearDebt(36500);
        dear.tick(11);
        dear.pay(0, 150);
        is("interest is no part of it", 50, dear.recourse(1, 0, 0));
    }

    private static void looks() {
        promise = "promise 13";
        DebtRows x = new DebtRows();
        fails("no debt 1", INDEX, () -> x.look(1, 0));
        x.tick(3);
        x.debt(100, 7);
        x.debtor(1, 8);
        fails("no debt 0", INDEX, () -> x.look(0, 0));
        fails("no debt -1", INDEX, () -> x.look(-1, 0));
        fails("no debt 2", INDEX, () -> x.look(2, 0));
        fails("what -1", INDEX, () -> x.look(1, -1));
        fails("no third debtor", INDEX, () -> x.look(1, 6));
        fails("no fourth debtor", INDEX, () -> x.look(1, 7));
        fails("what 8", INDEX, () -> x.look(1, 8));
        fails("what largest", INDEX, () -> x.look(1, MAX));
        fails("what least", INDEX, () -> x.look(1, MIN));
        is("state", BORN, x.look(1, 0));
        is("birth", 3, x.look(1, 1));
        is("due day", -1, x.look(1, 2));
        is("debtors", 2, x.look(1, 3));
        is("first", 7, x.look(1, 4));
        is("second", 8, x.look(1, 5));
        x.tick(4);
        x.notified(1);
        is("due day, notified", 14, x.look(1, 2));
        x.debtor(1, 9);
        x.debt(1, 0);
        x.debtor(2, 1);
        x.debtor(2, 2);
        x.debtor(2, 3);
        fails("what 8 of four debtors", INDEX, () -> x.look(2, 8));
    }

    private static void sums() {
        promise = "promise 14";
        DebtRows x = dearDebt(36500);
        x.debt(500, 1);
        x.notified(2);
        x.debt(50, 2);
        x.debt(70, 2);
        x.notified(4);
        x.appeal(4);
        x.decide(4, true);
        x.tick(12);
        x.pay(0, 700);
        x.pay(1, 600);
        is("all cents", 37120, x.sum(0));
        is("open", 36000 + 50, x.sum(1));
        is("paid of what was open", 500 + 500, x.sum(2));
        is("lost", 70, x.sum(3));
        is("interest paid", 200 + 2, x.sum(4));
        is("debts", 4, x.sum(5));
        is("today", 12, x.sum(6));
        is("rows", 1, x.sum(7));
        is("credit of 0", 0, x.sum(20));
        is("credit of 1", 98, x.sum(21));
        x.pay(15, 3);
        is("credit of 15", 3, x.sum(35));
        int[] others = {-1, 8, 19, 36, MIN, MAX};
        for (int what : others) {
            is("sum(" + what + ")", -1, x.sum(what));
        }
    }

    public static void main(String[] args) {
        theFace();
        aNewObject();
        rates();
        births();
        jointDebtors();
        notification();
        payments();
        interestIsPaidFirst();
        smallSums();
        deferrals();
        missedInstalments();
        deferralsAndInterest();
        appeals();
        decisions();
        days();
        sides();
        interestByRows();
        sharesAndRecourse();
        looks();
        sums();
        System.out.println(wrong == 0 ? "all answers are as due" : wrong + " answers are not as due");
        if (wrong != 0) {
            System.exit(1);
        }
    }
}
