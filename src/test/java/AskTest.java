/** Promises 11, 16, 17 and 18: what a new LOAN is, and why one is REFUSED. */
public final class AskTest {
    public static void main(String[] args) {
        newLoan();
        fromWhichFunds();
        fromSixFunds();
        borrowerRefused();
        suretiesRefused();
        standsRefused();
        ringRefused();
        notSoMuch();
        firstReason();
        hundredLoans();
        Check.finish();
    }

    private static void newLoan() {
        LoanChest x = Check.chest(5, 500, "");
        Check.weeks(x, 3);
        Check.same("ask", Check.ask(x, 4, 100, 2, 0), 0);
        Check.same("tape", x.count(7), 0);
        Check.row("loan(0, ..)", new int[] {4, 100, 3, 0, 0, 0, 0, 0, 2, 0}, what -> x.loan(0, what));
        Check.row("surety(0, ..)", new int[] {2, 0}, i -> x.surety(0, i));
        Check.same("taken(0, 0)", x.taken(0, 0), 100);
        Check.same("chest", x.chest(0, 3), 400);
        Check.refuses("loan(0, 10)", () -> x.loan(0, 10));
        Check.refuses("loan(0, -1)", () -> x.loan(0, -1));
        Check.refuses("loan(1, 0)", () -> x.loan(1, 0));
        Check.refuses("loan(-1, 0)", () -> x.loan(-1, 0));
        Check.refuses("surety(0, 2)", () -> x.surety(0, 2));
        Check.refuses("surety(0, -1)", () -> x.surety(0, -1));
        Check.refuses("surety(1, 0)", () -> x.surety(1, 0));
        Check.refuses("surety(-1, 0)", () -> x.surety(-1, 0));
        Check.refuses("taken(0, 1)", () -> x.taken(0, 1));
        Check.refuses("taken(0, -1)", () -> x.taken(0, -1));
        Check.refuses("taken(1, 0)", () -> x.taken(1, 0));
        Check.refuses("taken(-1, 0)", () -> x.taken(-1, 0));
        x.fund(0, 5);
        Check.same("taken from a fund made later", x.taken(0, 1), 0);
        Check.same("next loan", Check.ask(x, 3, 1, 2, 1), 1);
        Check.same("loans", x.count(3), 2);
        Check.same("open", x.count(4), 2);
    }

    private static void fromWhichFunds() {
        LoanChest x = new LoanChest();
        x.person(0b1010);
        x.fund(3, 10);
        x.fund(2, 10);
        x.fund(1, 10);
        x.fund(3, 10);
        x.gift(0, 15);
        Check.rules(x, "sureties 0;keep 5;");
        Check.same("ask", x.ask(0, 25), 0);
        Check.row("taken", new int[] {0, 10, 0, 10, 5}, f -> x.taken(0, f));
        Check.row("chest", new int[] {15, 0, 10, 0, 5}, f -> x.chest(f, 0));
        x.pay(0, 25);
        Check.same("above all there is", x.ask(0, 41), -11);
        Check.same("all there is", x.ask(0, 40), 1);
        Check.row("taken", new int[] {10, 10, 0, 10, 10}, f -> x.taken(1, f));
        Check.row("chest", new int[] {5, 0, 10, 0, 0}, f -> x.chest(f, 0));
        x.pay(0, 40);
        x.tag(0, 2, true);
        x.tag(0, 3, false);
        Check.same("with other tags", x.ask(0, 18), 2);
        Check.row("taken", new int[] {0, 0, 10, 8, 0}, f -> x.taken(2, f));
    }

    private static void fromSixFunds() {
        LoanChest x = new LoanChest();
        x.person(255);
        x.gift(0, 6);
        for (int f = 1; f < 6; f++) {
            x.fund(f, f);
        }
        Check.rules(x, "sureties 0;");
        Check.same("above all six", x.ask(0, 22), -11);
        Check.same("all six", x.ask(0, 21), 0);
        Check.row("taken", new int[] {6, 1, 2, 3, 4, 5}, f -> x.taken(0, f));
        Check.refuses("taken(0, 6)", () -> x.taken(0, 6));
        x.next();
        x.pay(0, 6);
        Check.row("back to fund 0", new int[] {6, 0, 0, 0, 0, 0, -1}, f -> x.chest(f, 1));
        x.pay(0, 14);
        Check.row("back from fund 5 on", new int[] {6, 0, 2, 3, 4, 5, -1}, f -> x.chest(f, 1));
        Check.row("then", new int[] {0, 0, 0, 0, 0, 0, -1}, f -> x.chest(f, 0));
    }

    private static void borrowerRefused() {
        LoanChest x = Check.chest(4, 500, "sureties 0;most 30;");
        Check.same("no such one", x.ask(4, 10), -2);
        Check.same("person -1", x.ask(-1, 10), -2);
        Check.same("amount 0", x.ask(0, 0), -3);
        Check.same("amount -1", x.ask(0, -1), -3);
        Check.same("amount above most", x.ask(0, 31), -3);
        Check.same("amount highest", x.ask(0, Integer.MAX_VALUE), -3);
        Check.same("most", x.ask(0, 30), 0);
        Check.same("an open loan", x.ask(0, 1), -4);
        x.pay(0, 30);
        Check.same("behind it", x.ask(0, 1), 1);
        Check.same("least", x.ask(1, 1), 2);
        Check.same("chest", x.chest(0, 0), 498);
    }

    private static void suretiesRefused() {
        LoanChest x = Check.chest(5, 500, "sureties 2;stands 1;weeks 1;call 1;late 0;");
        Check.same("none", Check.ask(x, 0, 10), -6);
        Check.same("one", Check.ask(x, 0, 10, 1), -6);
        Check.same("three", Check.ask(x, 0, 10, 1, 2, 3), -6);
        Check.same("the tape is empty behind it", x.count(7), 0);
        Check.same("none of people", Check.ask(x, 0, 10, 1, 5), -7);
        Check.same("the borrower", Check.ask(x, 0, 10, 0, 1), -7);
        Check.same("twice", Check.ask(x, 0, 10, 1, 1), -7);
        Check.same("number 40", Check.ask(x, 0, 10, 40, 1), -7);
        Check.same("number 65, not 1 again", Check.ask(x, 0, 10, 1, 65), -7);
        Check.same("good ones", Check.ask(x, 0, 10, 1, 2), 0);
        Check.weeks(x, 2);
        Check.same("a barred one", Check.ask(x, 0, 10, 3, 2), -8);
        Check.same("a barred borrower", Check.ask(x, 1, 10, 3, 4), -5);
        x.pay(2, 5);
        Check.same("no more barred", Check.ask(x, 0, 10, 3, 2), 1);
        Check.rules(x, "sureties 3;");
        Check.same("four", Check.ask(x, 2, 10, 0, 1, 3, 4), -6);
        Check.rules(x, "sureties 0;");
        Check.same("one where none is told", Check.ask(x, 2, 10, 0), -6);
        Check.rules(x, "sureties 1;bar 1;");
        Check.same("a surety whose loan was called", Check.ask(x, 2, 10, 0), -8);
    }

    private static void standsRefused() {
        LoanChest x = Check.chest(6, 500, "sureties 1;stands 2;");
        Check.same("first", Check.ask(x, 0, 10, 5), 0);
        Check.same("second", Check.ask(x, 1, 10, 5), 1);
        Check.same("third", Check.ask(x, 2, 10, 5), -9);
        Check.rules(x, "sureties 1;stands 1;");
        Check.same("above stands", Check.ask(x, 2, 10, 5), -9);
        x.pay(0, 10);
        Check.same("as many as stands", Check.ask(x, 2, 10, 5), -9);
        x.pay(1, 10);
        Check.same("none", Check.ask(x, 2, 10, 5), 2);
    }

    private static void ringRefused() {
        for (int ring = 0; ring <= 5; ring++) {
            LoanChest x = Check.chest(5, 500, "sureties 1;ring " + ring + ";");
            Check.ask(x, 0, 10, 1);
            Check.ask(x, 1, 10, 2);
            Check.ask(x, 2, 10, 3);
            Check.same("ring of 4 against " + ring, Check.ask(x, 3, 10, 0), ring >= 4 ? -10 : 3);
        }
        LoanChest x = Check.chest(5, 500, "sureties 1;ring 9;stands 9;");
        Check.ask(x, 0, 10, 1);
        Check.ask(x, 1, 10, 2);
        x.pay(1, 10);
        Check.same("a loan that was repaid makes no ring", Check.ask(x, 2, 10, 0), 2);
        Check.rules(x, "sureties 1;ring 0;stands 9;");
        Check.same("a ring is let be", Check.ask(x, 1, 10, 0), 3);
        Check.rules(x, "sureties 1;ring 9;stands 9;");
        Check.same("a ring that stands is no reason", Check.ask(x, 3, 10, 0), 4);
    }

    private static void notSoMuch() {
        LoanChest x = Check.chest(2, 50, "sureties 0;keep 20;");
        Check.same("above keep", x.ask(0, 31), -11);
        Check.same("to keep", x.ask(0, 30), 0);
        Check.same("below keep", x.ask(1, 1), -11);
        Check.rules(x, "sureties 0;keep 60;");
        x.fund(0, 5);
        x.tag(1, 0, true);
        Check.same("keep above what there is takes nothing from the others", x.ask(1, 6), -11);
        Check.same("only from the others", x.ask(1, 5), 1);
        Check.same("fund 0", x.chest(0, 0), 20);
    }

    private static void firstReason() {
        LoanChest x = Check.chest(8, 40, "sureties 2;stands 1;weeks 1;call 1;late 0;bar 1;most 20;ring 9;");
        Check.same("1 ahead of 2", Check.ask(x, 8, 0), -2);
        Check.same("called later", Check.ask(x, 0, 10, 1, 2), 0);
        Check.weeks(x, 2);
        Check.same("an open one", Check.ask(x, 3, 10, 4, 5), 1);
        Check.same("2 ahead of 3", Check.ask(x, 3, 21), -3);
        Check.same("3 ahead of 5", Check.ask(x, 3, 20), -4);
        Check.same("4 ahead of 5", Check.ask(x, 1, 20), -5);
        Check.same("5 ahead of 6", Check.ask(x, 6, 20, 6), -6);
        Check.same("6 ahead of 7", Check.ask(x, 6, 20, 1, 6), -7);
        Check.same("7 ahead of 8", Check.ask(x, 6, 20, 4, 1), -8);
        Check.same("8 ahead of 9", Check.ask(x, 4, 20, 3, 5), -9);
        Check.same("9 ahead of 10", Check.ask(x, 4, 20, 3, 6), -10);
        x.pay(3, 10);
        Check.ask(x, 3, 20, 4, 5);
        Check.same("10", Check.ask(x, 6, 20, 7, 3), -11);
    }

    private static void hundredLoans() {
        LoanChest x = Check.chest(2, 500, "sureties 0;");
        for (int i = 0; i < 100; i++) {
            Check.same("loan " + i, x.ask(0, 1), i);
            x.pay(0, 1);
        }
        Check.same("loan 100", x.ask(0, 1), -3);
        Check.same("no such one, ahead of that", x.ask(2, 1), -2);
        Check.same("loans", x.count(3), 100);
        Check.same("character at most", x.about(0, 1), 200);
        Check.same("loan(99, 7)", x.loan(99, 7), 1);
        Check.refuses("loan(100, 0)", () -> x.loan(100, 0));
    }
}
