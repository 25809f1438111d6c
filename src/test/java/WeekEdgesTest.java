/** The edges that promises 14 and 15 name, and the Terms' words on DUE, LATE, CALLED and LOST. */
public final class WeekEdgesTest {
    private static final int LOWEST = Integer.MIN_VALUE;
    private static final int HIGHEST = Integer.MAX_VALUE;

    public static void main(String[] args) {
        weekToWeek();
        it400();
        eachOpenLoan();
        inTurn();
        beganAhead();
        roundedUp();
        weeksAtMost();
        belowDue();
        latePence();
        callWeeks();
        oneBehindAnother();
        asTheyWereThen();
        restOfACalledLoan();
        firstOnesOnePennyMore();
        callOf0IsNone();
        lost();
        penceAtTheEnd();
        noSuchFundThen();
        noSuchWeek();
        Check.finish();
    }

    private static LoanChest lent(String rules, int amount) {
        LoanChest x = Check.chest(5, 20000, "sureties 0;" + rules);
        x.ask(0, amount);
        return x;
    }

    private static void weekToWeek() {
        Check.words("WEEK is 0 at first");
        LoanChest x = new LoanChest();
        Check.same("week", x.count(0), 0);
        Check.same("next()", x.next(), 1);
        Check.same("week", x.count(0), 1);
        Check.words("WEEK ends: the next one");
        Check.same("next()", x.next(), 2);
        Check.same("week", x.count(0), 2);
    }

    private static void it400() {
        Check.words("400 the last one; NONE: it is 400.");
        LoanChest x = Check.chest(1, 1000, "sureties 0;weeks 60;late 1;call 20;");
        for (int w = 1; w <= 398; w++) {
            Check.same("next()", x.next(), w);
        }
        x.ask(0, 60);
        Check.same("next()", x.next(), 399);
        Check.same("next()", x.next(), 400);
        Check.same("late", x.loan(0, 6), 1);
        int[] due = new int[10];
        for (int i = 0; i < 10; i++) {
            due[i] = x.loan(0, i);
        }
        for (int i = 0; i < 3; i++) {
            Check.same("next() at 400", x.next(), -1);
            Check.same("week", x.count(0), 400);
            Check.row("loan", due, what -> x.loan(0, what));
            Check.same("owes", x.owes(0), 61);
            Check.same("character", x.about(0, 1), 98);
            Check.same("chest", x.chest(0, 400), 940);
        }
        Check.yes("all else goes on in week 400", x.pay(0, 61));
        Check.same("a loan in week 400", x.ask(0, 5), 1);
        Check.same("began", x.loan(1, 2), 400);
        Check.same("chest(0, 400)", x.chest(0, 400), 996);
        Check.same("chest(0, 399)", x.chest(0, 399), 940);
        Check.same("chest(0, 397)", x.chest(0, 397), 1000);
        Check.same("chest(0, 401)", x.chest(0, 401), -1);
    }

    private static void eachOpenLoan() {
        Check.words("When WEEK t ends, each OPEN LOAN");
        LoanChest x = Check.chest(4, 1000, "sureties 0;weeks 1;late 2;call 2;bar 9;");
        x.ask(0, 10);
        x.ask(1, 10);
        x.ask(2, 10);
        x.pay(1, 10);
        Check.weeks(x, 2);
        Check.row("late", new int[] {1, 0, 1}, k -> x.loan(k, 6));
        x.pay(2, 12);
        x.next();
        Check.row("late", new int[] {2, 0, 1}, k -> x.loan(k, 6));
        Check.row("state", new int[] {2, 1, 1}, k -> x.loan(k, 7));
        Check.weeks(x, 5);
        Check.row("late no more", new int[] {2, 0, 1}, k -> x.loan(k, 6));
        Check.row("fines no more", new int[] {4, 0, 2}, k -> x.loan(k, 4));
        Check.same("lost but once", x.count(5), 14);
    }

    private static void inTurn() {
        Check.words("each OPEN LOAN in turn");
        LoanChest x = Check.chest(5, 1000, "sureties 1;weeks 1;late 0;call 1;");
        Check.ask(x, 1, 7, 4);
        Check.ask(x, 0, 9, 4);
        Check.weeks(x, 2);
        x.pay(4, 7);
        Check.row("the first loan's call came first", new int[] {7, 0}, k -> x.loan(k, 9));
        x.pay(4, 1);
        Check.row("then the other's", new int[] {7, 1}, k -> x.loan(k, 9));
    }

    private static void beganAhead() {
        Check.words("if it began in a WEEK w ahead of t");
        LoanChest x = Check.chest(3, 1000, "sureties 0;weeks 1;late 1;call 20;");
        x.ask(0, 10);
        x.next();
        Check.same("the end of its own week", x.loan(0, 6), 0);
        x.ask(1, 10);
        x.next();
        Check.row("the end of the next one", new int[] {1, 0}, k -> x.loan(k, 6));
        x.next();
        Check.row("and of the one behind that", new int[] {2, 1}, k -> x.loan(k, 6));
    }

    /** With so much PAID the LOAN is not LATE at the end of WEEK k behind its own; with a penny less it is. */
    private static void due(int amount, int weeks, int k, int due) {
        for (int began = 0; began <= 7; began += 7) {
            isLate(amount, weeks, began, k, due, 0);
            isLate(amount, weeks, began, k, due - 1, 1);
        }
    }

    private static void isLate(int amount, int weeks, int began, int k, int paid, int late) {
        LoanChest x = Check.chest(1, 20000, "sureties 0;most 9999;late 0;call 20;weeks " + weeks + ";");
        Check.weeks(x, began);
        x.ask(0, amount);
        Check.weeks(x, k);
        x.pay(0, paid);
        int before = x.loan(0, 6);
        x.next();
        String what = amount + " by " + weeks + " from week " + began + " on, week " + k + ", paid " + paid;
        Check.same(what + ": late", x.loan(0, 6) - before, late);
    }

    private static void roundedUp() {
        Check.words("DUE is AMOUNT times k by weeks, rounded up");
        due(10, 3, 1, 4);
        due(10, 3, 2, 7);
        due(11, 3, 1, 4);
        due(12, 3, 1, 4);
        due(12, 3, 2, 8);
        due(13, 3, 1, 5);
        due(61, 60, 1, 2);
        due(9999, 60, 1, 167);
        due(9999, 60, 19, 3167);
        due(9999, 7, 6, 8571);
        due(100, 20, 1, 5);
        LoanChest x = lent("late 0;call 20;weeks 60;", 1);
        Check.weeks(x, 2);
        Check.same("of 1 penny 1 is due at once", x.loan(0, 6), 1);
        LoanChest y = lent("late 0;call 20;weeks 60;", 59);
        y.pay(0, 1);
        Check.weeks(y, 2);
        Check.same("1 of 59 by 60", y.loan(0, 6), 0);
        y.next();
        Check.same("1 of 118 by 60", y.loan(0, 6), 1);
    }

    private static void weeksAtMost() {
        Check.words("with k = t - w, weeks at most");
        // All but a penny is enough one WEEK ahead of the last one, not in the last one or behind it.
        for (int weeks : new int[] {2, 3, 60}) {
            LoanChest x = lent("most 9999;late 0;call 20;weeks " + weeks + ";", 60);
            x.pay(0, 59);
            Check.weeks(x, weeks);
            Check.same("week " + (weeks - 1) + " of " + weeks, x.loan(0, 6), 0);
            x.next();
            Check.same("week " + weeks + " of " + weeks, x.loan(0, 6), 1);
            x.next();
            Check.same("behind week " + weeks, x.loan(0, 6), 2);
            Check.same("owes", x.owes(0), 1);
            x.pay(0, 1);
            Check.weeks(x, 2);
            Check.same("all is paid", x.loan(0, 6), 2);
        }
        LoanChest x = lent("weeks 1;late 0;call 20;", 60);
        x.pay(0, 59);
        Check.weeks(x, 2);
        Check.same("week 1 of 1", x.loan(0, 6), 1);
    }

    private static void belowDue() {
        Check.words("If PAID is below DUE it is LATE once more");
        LoanChest x = lent("weeks 10;late 5;call 20;", 100);
        x.next();
        x.pay(0, 10);
        x.next();
        Check.same("10 of 10", x.loan(0, 6), 0);
        x.pay(0, 9);
        x.next();
        Check.same("19 of 20", x.loan(0, 6), 1);
        x.pay(0, 15);
        Check.same("fines are no part of paid", x.loan(0, 3), 29);
        x.next();
        Check.same("29 of 30", x.loan(0, 6), 2);
        x.pay(0, 16);
        Check.same("paid", x.loan(0, 3), 40);
        x.next();
        Check.same("40 of 40", x.loan(0, 6), 2);
    }

    private static void latePence() {
        Check.words("and late pence more are FINES");
        for (int late : new int[] {0, 1, 99}) {
            LoanChest x = lent("weeks 10;call 20;late " + late + ";", 100);
            x.next();
            for (int times = 1; times <= 3; times++) {
                x.next();
                Check.same("fines", x.loan(0, 4), late * times);
                Check.same("owes", x.owes(0), 100 + late * times);
            }
            Check.same("came", x.loan(0, 5), 0);
        }
        LoanChest x = lent("weeks 10;call 1;late 7;", 100);
        Check.weeks(x, 2);
        Check.same("also when it is called", x.loan(0, 4), 7);
        LoanChest y = lent("weeks 10;", 100);
        Check.weeks(y, 3);
        Check.same("one a week without a text", y.loan(0, 4), 2);
    }

    private static void callWeeks() {
        Check.words("if it was LATE call WEEKS, one behind another, with this one, it is CALLED");
        for (int call : new int[] {1, 2, 19, 20}) {
            LoanChest x = lent("weeks 60;late 0;call " + call + ";", 60);
            Check.weeks(x, call);
            Check.same("late one week less than " + call, x.loan(0, 6), call - 1);
            Check.same("open", x.loan(0, 7), 0);
            Check.same("owes", x.owes(0), 60);
            x.next();
            Check.same("late " + call, x.loan(0, 6), call);
            Check.same("called", x.loan(0, 7), 2);
            Check.same("owes", x.owes(0), 0);
            Check.same("open loan", x.about(0, 3), -1);
            Check.same("open loans", x.count(4), 0);
        }
        LoanChest x = lent("", 60);
        Check.weeks(x, 4);
        Check.same("three times without a text", x.loan(0, 7), 0);
        x.next();
        Check.same("four times without a text", x.loan(0, 7), 2);
    }

    private static void oneBehindAnother() {
        Check.words("Otherwise the row of these ends.");
        LoanChest x = lent("weeks 60;late 0;call 3;", 60);
        Check.weeks(x, 3);
        for (int round = 1; round <= 4; round++) {
            Check.same("late twice, round " + round, x.loan(0, 6), 2 * round);
            Check.same("open", x.loan(0, 7), 0);
            x.pay(0, 3 * round - x.loan(0, 3));
            x.next();
            Check.same("once not late", x.loan(0, 6), 2 * round);
            Check.weeks(x, 2);
        }
        Check.same("late twice", x.loan(0, 6), 10);
        Check.same("open", x.loan(0, 7), 0);
        x.next();
        Check.same("three times, one behind another", x.loan(0, 7), 2);
    }

    private static void asTheyWereThen() {
        Check.words("and weeks, late, call as they were then");
        LoanChest x = lent("weeks 2;late 5;call 2;", 10);
        Check.rules(x, "weeks 60;late 99;call 20;");
        x.pay(0, 4);
        Check.weeks(x, 2);
        Check.same("late by its own weeks", x.loan(0, 6), 1);
        Check.same("its own fine", x.loan(0, 4), 5);
        x.next();
        Check.same("its own call", x.loan(0, 7), 2);
        LoanChest y = lent("weeks 60;late 0;call 20;", 60);
        Check.rules(y, "weeks 1;late 99;call 1;");
        y.pay(0, 1);
        Check.weeks(y, 2);
        Check.same("not late by its own weeks", y.loan(0, 6), 0);
        y.next();
        Check.same("no fine of its own", y.loan(0, 4), 0);
        Check.same("not called by its own call", y.loan(0, 7), 0);
    }

    private static LoanChest calledWith(int sureties, int amount, String rules) {
        LoanChest x = Check.chest(5, 20000, "weeks 1;call 1;sureties " + sureties + ";" + rules);
        int[] others = {4, 2, 3};
        Check.ask(x, 0, amount, java.util.Arrays.copyOf(others, sureties));
        return x;
    }

    private static void restOfACalledLoan() {
        Check.words("its REST (AMOUNT less PAID, and FINES that did not come) is parted");
        LoanChest x = Check.chest(3, 1000, "weeks 10;late 3;call 3;sureties 1;");
        Check.ask(x, 0, 100, 1);
        Check.weeks(x, 3);
        Check.same("fines", x.loan(0, 4), 6);
        x.pay(0, 5);
        x.next();
        Check.same("100 and 9 less 5", x.owes(1), 104);
        Check.same("of the borrower nothing more", x.owes(0), 0);
        LoanChest y = Check.chest(3, 1000, "weeks 10;late 3;call 3;sureties 1;");
        Check.ask(y, 0, 100, 1);
        Check.weeks(y, 3);
        y.pay(0, 6 + 17);
        y.next();
        Check.same("100 less 17, and 3", y.owes(1), 86);
        Check.same("state", y.loan(0, 7), 2);
        Check.same("paid", y.loan(0, 3), 17);
    }

    private static void parted(int amount, int... due) {
        LoanChest x = calledWith(due.length, amount, "late 0;");
        Check.weeks(x, 2);
        int[] others = {4, 2, 3};
        for (int i = 0; i < due.length; i++) {
            Check.same("surety " + i + " of " + amount, x.about(others[i], 6), due[i]);
            Check.same("calls", x.about(others[i], 5), due[i] > 0 ? 1 : 0);
            Check.same("barred", x.about(others[i], 2), due[i] > 0 ? 1 : 0);
            Check.same("owes", x.owes(others[i]), due[i]);
        }
        Check.same("lost", x.count(5), 0);
        Check.same("the borrower owes", x.owes(0), 0);
        Check.same("who is no surety owes", x.owes(1), 0);
    }

    private static void firstOnesOnePennyMore() {
        Check.words("each of the SURETIES has a CALL of that by how many they are, cut, the first ones one penny more "
            + "till it is all");
        parted(10, 10);
        parted(10, 5, 5);
        parted(11, 6, 5);
        parted(12, 4, 4, 4);
        parted(13, 5, 4, 4);
        parted(14, 5, 5, 4);
        parted(100, 34, 33, 33);
    }

    private static void callOf0IsNone() {
        Check.words("(a CALL of 0 is none)");
        parted(1, 1);
        parted(1, 1, 0);
        parted(1, 1, 0, 0);
        parted(2, 1, 1, 0);
        parted(3, 1, 1, 1);
    }

    private static void lost() {
        Check.words("without SURETIES it is LOST");
        LoanChest x = Check.chest(2, 1000, "sureties 0;weeks 10;late 3;call 2;");
        x.ask(0, 100);
        Check.weeks(x, 2);
        Check.same("not called yet", x.count(5), 0);
        x.pay(0, 3 + 7);
        x.next();
        Check.same("93 and 3", x.count(5), 96);
        Check.same("owes", x.owes(0), 0);
        Check.same("chest", x.chest(0, 3), 910);
        Check.same("given", x.count(6), 1000);
        Check.no("pay", x.pay(0, 1));
        LoanChest y = calledWith(1, 10, "late 3;");
        Check.weeks(y, 2);
        Check.same("with a surety nothing is lost", y.count(5), 0);
    }

    private static void penceAtTheEnd() {
        Check.words("Pence in FUND f at the end of a WEEK (now, if it is WEEK)");
        LoanChest x = new LoanChest();
        x.person(1);
        Check.rules(x, "sureties 0;");
        x.fund(0, 5);
        Check.same("now, in week 0", x.chest(1, 0), 5);
        x.gift(1, 2);
        Check.same("now, behind a gift", x.chest(1, 0), 7);
        x.next();
        x.ask(0, 3);
        Check.row("a loan is of this week alone", new int[] {7, 4}, w -> x.chest(1, w));
        x.next();
        x.pay(0, 1);
        Check.row("so is what comes back", new int[] {7, 4, 5}, w -> x.chest(1, w));
        x.next();
        Check.row("and it stays", new int[] {7, 4, 5, 5, -1}, w -> x.chest(1, w));
        Check.row("fund 0 was empty", new int[] {0, 0, 0, 0, -1}, w -> x.chest(0, w));
    }

    private static void noSuchFundThen() {
        Check.words("NONE: no such FUND (also not then)");
        LoanChest x = new LoanChest();
        Check.weeks(x, 2);
        x.fund(0, 5);
        Check.row("made in week 2", new int[] {-1, -1, 5}, w -> x.chest(1, w));
        x.next();
        x.fund(0, 0);
        Check.row("made in week 2", new int[] {-1, -1, 5, 5}, w -> x.chest(1, w));
        Check.row("made in week 3, with nothing", new int[] {-1, -1, -1, 0}, w -> x.chest(2, w));
        Check.row("fund 0", new int[] {0, 0, 0, 0}, w -> x.chest(0, w));
        for (int f : new int[] {-1, 3, 5, 6, LOWEST, HIGHEST}) {
            Twins.same("chest(" + f + ", 0)", -1, chest -> chest.chest(f, 0));
            Twins.same("chest(" + f + ", 3)", -1, chest -> chest.chest(f, 3));
            Check.same("chest(" + f + ", 0) of a new one", new LoanChest().chest(f == 3 ? 1 : f, 0), -1);
        }
    }

    private static void noSuchWeek() {
        Check.words("or no such WEEK up to now");
        for (int week : new int[] {-1, 4, 5, 399, 400, 401, LOWEST, HIGHEST}) {
            for (int f = 0; f < 3; f++) {
                int of = f;
                Twins.same("chest(" + f + ", " + week + ")", -1, chest -> chest.chest(of, week));
            }
        }
        LoanChest x = new LoanChest();
        Check.same("chest(0, 1) in week 0", x.chest(0, 1), -1);
        x.next();
        Check.same("chest(0, 1) in week 1", x.chest(0, 1), 0);
        Check.same("chest(0, 2) in week 1", x.chest(0, 2), -1);
    }
}
