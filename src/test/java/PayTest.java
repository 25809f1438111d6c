/** Promises 12 and 13. */
public final class PayTest {
    public static void main(String[] args) {
        wrongInputs();
        repaid();
        callsFirst();
        backToTheFunds();
        callsBackToTheFunds();
        Check.finish();
    }

    private static void wrongInputs() {
        LoanChest x = new LoanChest();
        Check.people(x, 2);
        x.gift(0, 100);
        Check.rules(x, "sureties 0;");
        x.ask(0, 10);
        Check.no("no such one", x.pay(2, 1));
        Check.no("person -1", x.pay(-1, 1));
        Check.no("0", x.pay(0, 0));
        Check.no("-1", x.pay(0, -1));
        Check.no("lowest", x.pay(0, Integer.MIN_VALUE));
        Check.no("more than is owed", x.pay(0, 11));
        Check.no("nothing is owed", x.pay(1, 1));
        Check.same("chest", x.chest(0, 0), 90);
        Check.same("paid", x.loan(0, 3), 0);
        Check.same("owes", x.owes(0), 10);
        Check.same("owes nothing", x.owes(1), 0);
        Check.same("no such one", x.owes(2), -1);
        Check.same("person -1", x.owes(-1), -1);
    }

    private static void repaid() {
        LoanChest x = new LoanChest();
        Check.people(x, 1);
        x.gift(0, 100);
        Check.rules(x, "sureties 0;weeks 2;late 3;");
        x.ask(0, 10);
        Check.weeks(x, 2);
        Check.same("owes", x.owes(0), 13);
        Check.yes("part of the fines", x.pay(0, 2));
        Check.same("fines that came", x.loan(0, 5), 2);
        Check.same("paid", x.loan(0, 3), 0);
        Check.same("back", x.loan(0, 9), 0);
        Check.same("chest", x.chest(0, 2), 92);
        Check.yes("all but one", x.pay(0, 10));
        Check.same("state", x.loan(0, 7), 0);
        Check.same("owes", x.owes(0), 1);
        Check.yes("the last one", x.pay(0, 1));
        Check.row("loan", new int[] {0, 10, 0, 10, 3, 3, 1, 1, 0, 10}, what -> x.loan(0, what));
        Check.same("open loan", x.about(0, 3), -1);
        Check.same("chest", x.chest(0, 2), 103);
        Check.no("nothing is owed", x.pay(0, 1));
    }

    /** One who has two CALLS, a FINE and an OPEN LOAN. */
    private static void callsFirst() {
        LoanChest x = new LoanChest();
        Check.people(x, 4);
        x.gift(0, 100);
        Check.rules(x, "sureties 1;weeks 2;late 1;call 2;stands 9;ring 0;");
        Check.ask(x, 0, 10, 2);
        Check.ask(x, 1, 20, 2);
        x.next();
        Check.ask(x, 2, 6, 3);
        Check.weeks(x, 2);
        Check.same("calls", x.about(2, 5), 2);
        Check.same("by calls", x.about(2, 6), 12 + 22);
        Check.same("owes", x.owes(2), 12 + 22 + 1 + 6);
        x.pay(2, 11);
        Check.same("first call", x.loan(0, 9), 10);
        Check.same("second call", x.loan(1, 9), 0);
        Check.same("calls", x.about(2, 5), 2);
        x.pay(2, 3);
        Check.same("second call", x.loan(1, 9), 2);
        Check.same("calls", x.about(2, 5), 1);
        Check.same("by calls", x.about(2, 6), 20);
        x.pay(2, 21);
        Check.same("calls", x.about(2, 5), 0);
        Check.same("fines that came", x.loan(2, 5), 1);
        Check.same("paid", x.loan(2, 3), 0);
        x.pay(2, 6);
        Check.same("repaid", x.loan(2, 7), 1);
        Check.same("the called ones stay called", x.loan(0, 7), 2);
        Check.same("chest", x.chest(0, 3), 100 + 2 + 2 + 1);
    }

    private static LoanChest threeFunds() {
        LoanChest x = new LoanChest();
        x.person(0b11);
        Check.people(x, 2);
        x.fund(0, 10);
        x.fund(1, 20);
        x.gift(0, 30);
        return x;
    }

    private static void backToTheFunds() {
        LoanChest x = threeFunds();
        Check.rules(x, "sureties 0;weeks 1;late 4;call 9;keep 1;");
        x.ask(0, 35);
        Check.row("taken", new int[] {5, 10, 20}, f -> x.taken(0, f));
        Check.weeks(x, 2);
        x.pay(0, 4);
        Check.row("fines", new int[] {29, 0, 0}, f -> x.chest(f, 2));
        x.pay(0, 4);
        Check.row("to fund 0 first", new int[] {33, 0, 0}, f -> x.chest(f, 2));
        x.pay(0, 2);
        Check.row("then to fund 2", new int[] {34, 0, 1}, f -> x.chest(f, 2));
        x.pay(0, 22);
        Check.row("then to fund 1", new int[] {34, 3, 20}, f -> x.chest(f, 2));
        x.pay(0, 7);
        Check.row("all", new int[] {34, 10, 20}, f -> x.chest(f, 2));
        Check.row("what was taken stays told", new int[] {5, 10, 20}, f -> x.taken(0, f));
        Check.same("state", x.loan(0, 7), 1);
    }

    private static void callsBackToTheFunds() {
        LoanChest x = threeFunds();
        Check.rules(x, "sureties 2;weeks 2;late 3;call 2;");
        Check.ask(x, 0, 35, 1, 2);
        Check.weeks(x, 2);
        x.pay(0, 10);
        Check.row("fines and seven", new int[] {33, 0, 2}, f -> x.chest(f, 2));
        x.next();
        Check.same("first", x.owes(1), 16);
        Check.same("second", x.owes(2), 15);
        x.pay(2, 15);
        Check.row("calls", new int[] {33, 0, 17}, f -> x.chest(f, 3));
        x.pay(1, 14);
        Check.row("calls beyond the amount", new int[] {34, 10, 20}, f -> x.chest(f, 3));
        Check.same("back", x.loan(0, 9), 35);
        Check.same("paid", x.loan(0, 3), 7);
        x.pay(1, 2);
        Check.row("the last ones", new int[] {36, 10, 20}, f -> x.chest(f, 3));
        Check.same("fines that came of the borrower", x.loan(0, 5), 3);
        Check.same("back", x.loan(0, 9), 35);
    }
}
