/** Promise 20. */
public final class RingTest {
    public static void main(String[] args) {
        shortest();
        longest();
        endsWithItsLoans();
        Check.finish();
    }

    private static void shortest() {
        LoanChest x = Check.chest(7, 1000, "sureties 2;stands 9;ring 0;");
        Check.ask(x, 0, 10, 1, 2);
        Check.ask(x, 1, 10, 2, 5);
        Check.ask(x, 2, 10, 3, 5);
        Check.row("no ring", new int[] {-1, -1, -1, -1, -1, -1, -1, -1}, x::ring);
        Check.ask(x, 3, 10, 0, 5);
        Check.row("0 2 3, and 0 1 2 3", new int[] {3, 4, 3, 3, -1, -1, -1, -1}, x::ring);
        Check.ask(x, 4, 10, 0, 1);
        Check.same("one who is in no ring but vouched for by its people", x.ring(4), -1);
        Check.ask(x, 5, 10, 3, 6);
        Check.row("3 5 too", new int[] {3, 4, 3, 2, -1, 2, -1}, x::ring);
        Check.same("ring(-1)", x.ring(-1), -1);
        Check.same("ring(7)", x.ring(7), -1);
        Check.same("ring(highest)", x.ring(Integer.MAX_VALUE), -1);
    }

    private static void longest() {
        LoanChest x = Check.chest(40, 1000, "sureties 1;ring 9;");
        for (int p = 0; p < 39; p++) {
            Check.same("ask", Check.ask(x, p, 1, p + 1), p);
            Check.same("no ring yet", x.ring(p), -1);
        }
        Check.same("ask", Check.ask(x, 39, 1, 0), 39);
        for (int p = 0; p < 40; p++) {
            Check.same("ring of all", x.ring(p), 40);
        }
    }

    private static void endsWithItsLoans() {
        LoanChest x = Check.chest(3, 1000, "sureties 1;ring 0;weeks 1;call 1;");
        Check.ask(x, 0, 10, 1);
        Check.ask(x, 1, 10, 0);
        Check.same("two", x.ring(0), 2);
        x.pay(1, 10);
        Check.same("repaid", x.ring(0), -1);
        x.next();
        Check.ask(x, 1, 10, 0);
        Check.same("two again", x.ring(1), 2);
        x.next();
        Check.same("the older one was called", x.loan(0, 7), 2);
        Check.same("called", x.ring(1), -1);
        Check.same("called", x.ring(0), -1);
    }
}
