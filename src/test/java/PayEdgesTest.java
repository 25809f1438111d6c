/** The edges that promises 12 and 13 name, and the Terms' words on one who PAYS. */
public final class PayEdgesTest {
    private static final int LOWEST = Integer.MIN_VALUE;
    private static final int HIGHEST = Integer.MAX_VALUE;

    public static void main(String[] args) {
        noSuchOne();
        soMuch();
        below1();
        moreThanOneOwes();
        whatOneOwes();
        callsInTheirOrder();
        finesThenAmount();
        repaidWhenAllCame();
        backToTheFunds();
        asMuchAsWasTaken();
        callsGoBackToo();
        whatElseComes();
        stayCalled();
        paidAndFines();
        Check.finish();
    }

    private static void noSuchOne() {
        Check.words("false, and nothing is changed: no such one");
        for (int person : new int[] {-1, 6, 39, 40, LOWEST, HIGHEST}) {
            Twins.same("pay(" + person + ", 1)", 0, chest -> chest.pay(person, 1) ? 1 : 0);
        }
        Check.no("pay(0, 1) of a new one", new LoanChest().pay(0, 1));
    }

    private static void soMuch() {
        Check.words("One PAYS so much: true");
        for (int pence : new int[] {1, 2, 59, 60}) {
            LoanChest x = Check.chest(2, 60, "sureties 0;");
            x.ask(1, 60);
            Check.yes("pay " + pence, x.pay(1, pence));
            Check.same("paid", x.loan(0, 3), pence);
            Check.same("owes", x.owes(1), 60 - pence);
            Check.same("chest", x.chest(0, 0), pence);
        }
    }

    private static void below1() {
        Check.words("below 1");
        for (int pence : new int[] {0, -1, -53, LOWEST}) {
            for (int p = 0; p < 6; p++) {
                int person = p;
                Twins.same("pay(" + p + ", " + pence + ")", 0, chest -> chest.pay(person, pence) ? 1 : 0);
            }
        }
        LoanChest x = Check.chest(1, 100, "sureties 0;");
        x.ask(0, 1);
        Check.no("0 of 1", x.pay(0, 0));
        Check.yes("1 of 1", x.pay(0, 1));
        Check.no("0 of 0", x.pay(0, 0));
    }

    private static void moreThanOneOwes() {
        Check.words("or more than one owes (owes())");
        // In busy() 1 owes the rest of a CALL, 3 a part of a FINE and a LOAN, all others nothing.
        int[] owed = {0, 49, 0, 61, 0, 0};
        LoanChest x = new LoanChest();
        Twins.busy(x);
        Check.row("owes", owed, x::owes);
        for (int p = 0; p < 6; p++) {
            int person = p;
            for (int pence : new int[] {owed[p] + 1, owed[p] + 1000, HIGHEST}) {
                Twins.same("pay(" + p + ", " + pence + ")", 0, chest -> chest.pay(person, pence) ? 1 : 0);
            }
            if (owed[p] > 0) {
                Check.yes("all of it", x.pay(p, owed[p]));
                Check.no("one more", x.pay(p, 1));
                Check.same("owes", x.owes(p), 0);
            }
        }
    }

    private static void whatOneOwes() {
        Check.words("What one owes: CALLS, FINES and the REST of the OPEN LOAN; NONE: no such one.");
        for (int person : new int[] {-1, 6, 40, LOWEST, HIGHEST}) {
            Twins.same("owes(" + person + ")", -1, chest -> chest.owes(person));
        }
        LoanChest x = twoCallsAndALoan();
        Check.same("two calls, a fine and a loan", x.owes(2), 12 + 22 + 1 + 6);
        Check.same("called: nothing more", x.owes(0), 0);
        Check.same("nothing", x.owes(3), 0);
        for (int owed = 41; owed > 0; owed--) {
            Check.same("owes", x.owes(2), owed);
            Check.yes("pay", x.pay(2, 1));
        }
        Check.same("owes nothing more", x.owes(2), 0);
        Check.same("repaid", x.loan(2, 7), 1);
    }

    /** 2 has a CALL of 12 for LOAN 0 and one of 22 for LOAN 1, and owes a FINE of 1 and 6 pence of LOAN 2. */
    private static LoanChest twoCallsAndALoan() {
        LoanChest x = Check.chest(4, 100, "sureties 1;weeks 2;late 1;call 2;stands 9;ring 0;");
        Check.ask(x, 0, 10, 2);
        Check.ask(x, 1, 20, 2);
        x.next();
        Check.ask(x, 2, 6, 3);
        Check.weeks(x, 2);
        return x;
    }

    /** Of one payment: what of it came for LOANS 0, 1 and 2, the FINE of 2, CALLS that are left, its state, FUND 0. */
    private static void paysAtOnce(int pence, int... due) {
        LoanChest x = twoCallsAndALoan();
        Check.yes("pay " + pence, x.pay(2, pence));
        String what = "behind " + pence + " at once: ";
        Check.same(what + "back of loan 0", x.loan(0, 9), due[0]);
        Check.same(what + "back of loan 1", x.loan(1, 9), due[1]);
        Check.same(what + "back of loan 2", x.loan(2, 9), due[2]);
        Check.same(what + "paid of loan 2", x.loan(2, 3), due[2]);
        Check.same(what + "fines of loan 2 that came", x.loan(2, 5), due[3]);
        Check.same(what + "calls", x.about(2, 5), due[4]);
        Check.same(what + "barred", x.about(2, 2), due[4] > 0 ? 1 : 0);
        Check.same(what + "state", x.loan(2, 7), due[5]);
        Check.same(what + "chest", x.chest(0, 3), 64 + pence);
        Check.same(what + "owes", x.owes(2), 41 - pence);
    }

    private static void callsInTheirOrder() {
        Check.words("One who PAYS: first CALLS, in the order in which they came");
        paysAtOnce(1, 1, 0, 0, 0, 2, 0);
        paysAtOnce(10, 10, 0, 0, 0, 2, 0);
        paysAtOnce(11, 10, 0, 0, 0, 2, 0);
        paysAtOnce(12, 10, 0, 0, 0, 1, 0);
        paysAtOnce(13, 10, 1, 0, 0, 1, 0);
        paysAtOnce(33, 10, 20, 0, 0, 1, 0);
        paysAtOnce(34, 10, 20, 0, 0, 0, 0);
    }

    private static void finesThenAmount() {
        Check.words("then FINES of the OPEN LOAN, then its AMOUNT");
        paysAtOnce(35, 10, 20, 0, 1, 0, 0);
        paysAtOnce(36, 10, 20, 1, 1, 0, 0);
        paysAtOnce(40, 10, 20, 5, 1, 0, 0);
        paysAtOnce(41, 10, 20, 6, 1, 0, 1);
    }

    private static void repaidWhenAllCame() {
        Check.words("a LOAN is REPAID when all its AMOUNT and FINES came");
        LoanChest x = Check.chest(1, 100, "sureties 0;weeks 2;late 3;");
        x.ask(0, 10);
        Check.weeks(x, 2);
        x.pay(0, 10);
        Check.same("as much as the amount, but no repayment", x.loan(0, 7), 0);
        Check.same("paid", x.loan(0, 3), 7);
        x.pay(0, 2);
        Check.same("a penny less than all", x.loan(0, 7), 0);
        Check.same("open loan", x.about(0, 3), 0);
        x.pay(0, 1);
        Check.same("all", x.loan(0, 7), 1);
        Check.same("open loan", x.about(0, 3), -1);
        Check.same("open ones", x.count(4), 0);
        LoanChest y = Check.chest(1, 100, "sureties 0;");
        y.ask(0, 10);
        y.pay(0, 9);
        Check.same("a penny less than all", y.loan(0, 7), 0);
        y.pay(0, 1);
        Check.same("all, without fines", y.loan(0, 7), 1);
    }

    /** A LOAN of 18 pence: 6 of FUND 1, 5 of FUND 3, 4 of FUND 5 and 3 of FUND 0, which has 3 more. */
    private static LoanChest fourFunds(String rules, int... sureties) {
        LoanChest x = new LoanChest();
        x.person(1);
        Check.people(x, 3);
        x.gift(0, 6);
        for (int f = 1; f < 6; f++) {
            x.fund(f % 2 == 1 ? 0 : 1, 7 - (f + 1) / 2);
        }
        Check.rules(x, rules);
        Check.ask(x, 0, 18, sureties);
        return x;
    }

    private static void backToTheFunds() {
        Check.words("What comes of AMOUNT .. goes back to the FUNDS from which it was taken, the one that was taken "
            + "from last first");
        LoanChest x = fourFunds("sureties 0;");
        Check.row("taken", new int[] {3, 6, 0, 5, 0, 4}, f -> x.taken(0, f));
        int[] first = {3, 0, 6, 0, 5, 0};
        int[] order = {0, 0, 0, 5, 5, 5, 5, 3, 3, 3, 3, 3, 1, 1, 1, 1, 1, 1};
        int[] due = first.clone();
        Check.row("chest", due, f -> x.chest(f, 0));
        for (int i = 0; i < order.length; i++) {
            x.pay(0, 1);
            due[order[i]]++;
            Check.row("chest behind penny " + i, due, f -> x.chest(f, 0));
        }
        for (int pence = 1; pence <= 18; pence++) {
            LoanChest y = fourFunds("sureties 0;");
            y.pay(0, pence);
            int[] now = first.clone();
            for (int i = 0; i < pence; i++) {
                now[order[i]]++;
            }
            Check.row("chest behind " + pence + " at once", now, f -> y.chest(f, 0));
        }
    }

    private static void asMuchAsWasTaken() {
        Check.words("to each as much as was taken");
        LoanChest x = fourFunds("sureties 0;weeks 1;late 2;call 20;");
        x.gift(5, 100);
        x.gift(0, 100);
        Check.weeks(x, 2);
        x.pay(0, 20);
        Check.row("chest", new int[] {108, 6, 6, 5, 5, 104}, f -> x.chest(f, 2));
        Check.row("taken is told still", new int[] {3, 6, 0, 5, 0, 4}, f -> x.taken(0, f));
        // The next LOAN has a count of its own.
        x.ask(0, 1);
        x.pay(0, 1);
        Check.row("chest", new int[] {108, 6, 6, 5, 5, 104}, f -> x.chest(f, 2));
        // Who has lost the TAG meanwhile brings back to the same FUNDS.
        LoanChest y = fourFunds("sureties 0;");
        y.tag(0, 0, false);
        y.tag(0, 1, true);
        y.pay(0, 18);
        Check.row("chest", new int[] {6, 6, 6, 5, 5, 4}, f -> y.chest(f, 0));
    }

    private static void callsGoBackToo() {
        Check.words("and of CALLS as long as not all of the AMOUNT came");
        LoanChest x = fourFunds("sureties 2;weeks 1;late 3;call 1;", 2, 3);
        x.pay(0, 4);
        Check.weeks(x, 2);
        Check.same("first call", x.owes(2), 9);
        Check.same("second call", x.owes(3), 8);
        x.pay(3, 8);
        Check.row("chest", new int[] {6, 0, 6, 5, 5, 4}, f -> x.chest(f, 2));
        Check.same("back", x.loan(0, 9), 12);
        Check.same("paid by the borrower", x.loan(0, 3), 4);
        x.pay(2, 5);
        Check.row("chest", new int[] {6, 5, 6, 5, 5, 4}, f -> x.chest(f, 2));
        x.pay(2, 2);
        Check.row("the last penny of the amount, one beyond", new int[] {7, 6, 6, 5, 5, 4}, f -> x.chest(f, 2));
        Check.same("back", x.loan(0, 9), 18);
    }

    private static void whatElseComes() {
        Check.words("FINES, and what else comes of CALLS, go to FUND 0");
        LoanChest x = fourFunds("sureties 1;weeks 2;late 7;call 2;", 3);
        Check.weeks(x, 2);
        x.pay(0, 6);
        Check.row("a part of the fine", new int[] {9, 0, 6, 0, 5, 0}, f -> x.chest(f, 2));
        x.pay(0, 1);
        Check.row("the fine", new int[] {10, 0, 6, 0, 5, 0}, f -> x.chest(f, 2));
        Check.same("back", x.loan(0, 9), 0);
        x.next();
        Check.same("call", x.owes(3), 25);
        x.pay(3, 18);
        Check.row("the amount", new int[] {13, 6, 6, 5, 5, 4}, f -> x.chest(f, 3));
        x.pay(3, 1);
        Check.row("one beyond", new int[] {14, 6, 6, 5, 5, 4}, f -> x.chest(f, 3));
        x.pay(3, 6);
        Check.row("all", new int[] {20, 6, 6, 5, 5, 4}, f -> x.chest(f, 3));
        Check.row("loan", new int[] {0, 18, 0, 0, 14, 7, 2, 2, 1, 18}, what -> x.loan(0, what));
    }

    private static void paidAndFines() {
        Check.words("PAID: what came back of AMOUNT; FINES: what was laid on it, and of that what came.");
        LoanChest x = Check.chest(2, 100, "sureties 0;weeks 10;late 5;call 20;");
        x.ask(0, 50);
        Check.weeks(x, 3);
        Check.row("paid, fines, came", new int[] {0, 10, 0}, i -> x.loan(0, 3 + i));
        x.pay(0, 9);
        Check.row("paid, fines, came", new int[] {0, 10, 9}, i -> x.loan(0, 3 + i));
        x.pay(0, 3);
        Check.row("paid, fines, came", new int[] {2, 10, 10}, i -> x.loan(0, 3 + i));
        x.next();
        Check.row("paid, fines, came", new int[] {2, 15, 10}, i -> x.loan(0, 3 + i));
        x.pay(0, 53);
        Check.row("paid, fines, came", new int[] {50, 15, 15}, i -> x.loan(0, 3 + i));
    }

    private static void stayCalled() {
        Check.words("It is OPEN, till it is REPAID or CALLED.");
        LoanChest x = fourFunds("sureties 1;weeks 1;late 0;call 1;", 3);
        Check.same("open", x.loan(0, 7), 0);
        Check.weeks(x, 2);
        Check.same("called", x.loan(0, 7), 2);
        x.pay(3, 18);
        Check.same("called, though all came", x.loan(0, 7), 2);
        Check.same("never paid by the borrower", x.loan(0, 3), 0);
        Check.same("character", x.about(0, 1), 68);
    }
}
