/** Promise 1, and promise 21 on a new object. */
public final class NewObjectTest {
    public static void main(String[] args) {
        LoanChest x = new LoanChest();
        Check.same("NONE", LoanChest.NONE, -1);
        Check.row("count", new int[] {0, 0, 1, 0, 0, 0, 0, 0, -1}, x::count);
        Check.row("rule", new int[] {100, 20, 2, 2, 1, 4, 0, 2, 3, -1}, x::rule);
        Check.same("fault", x.fault(), 0);
        Check.same("chest(0, 0)", x.chest(0, 0), 0);
        Check.same("chest(1, 0)", x.chest(1, 0), -1);
        Check.same("owes(0)", x.owes(0), -1);
        Check.same("ring(0)", x.ring(0), -1);
        Check.no("end(1)", x.end(1));
        Check.refuses("loan(0, 0)", () -> x.loan(0, 0));
        Check.refuses("surety(0, 0)", () -> x.surety(0, 0));
        Check.refuses("taken(0, 0)", () -> x.taken(0, 0));
        Check.refuses("about(0, 0)", () -> x.about(0, 0));
        objectsAreApart();
        Check.finish();
    }

    private static void objectsAreApart() {
        LoanChest one = new LoanChest();
        LoanChest other = new LoanChest();
        Check.rules(one, "most 7;");
        one.gift(0, 5);
        one.person(3);
        one.feed(1, 2, 3, 4, 5);
        Check.same("the other's rule", other.rule(0), 100);
        Check.row("the other's count", new int[] {0, 0, 1, 0, 0, 0, 0, 0}, other::count);
    }
}
