/** Promises 19 and 21. */
public final class AboutTest {
    public static void main(String[] args) {
        wrongInputs();
        standing();
        character();
        barred();
        counts();
        Check.finish();
    }

    private static void wrongInputs() {
        LoanChest x = Check.chest(2, 1000, "");
        Check.row("of a new one", new int[] {0, 100, 0, -1, 0, 0, 0}, what -> x.about(1, what));
        Check.refuses("about(2, 0)", () -> x.about(2, 0));
        Check.refuses("about(-1, 0)", () -> x.about(-1, 0));
        Check.refuses("about(0, 7)", () -> x.about(0, 7));
        Check.refuses("about(0, -1)", () -> x.about(0, -1));
    }

    private static void standing() {
        LoanChest x = Check.chest(5, 1000, "sureties 2;weeks 1;call 1;stands 9;ring 0;");
        Check.ask(x, 0, 10, 3, 4);
        Check.ask(x, 1, 10, 3, 4);
        Check.ask(x, 2, 10, 0, 4);
        Check.row("stands", new int[] {1, 0, 0, 2, 3}, p -> x.about(p, 4));
        Check.row("open loan", new int[] {0, 1, 2, -1, -1}, p -> x.about(p, 3));
        x.pay(1, 10);
        Check.row("stands", new int[] {1, 0, 0, 1, 2}, p -> x.about(p, 4));
        Check.row("open loan", new int[] {0, -1, 2, -1, -1}, p -> x.about(p, 3));
        Check.weeks(x, 2);
        Check.row("stands", new int[] {0, 0, 0, 0, 0}, p -> x.about(p, 4));
        Check.row("calls", new int[] {1, 0, 0, 1, 2}, p -> x.about(p, 5));
        Check.row("owed by them", new int[] {6, 0, 0, 6, 10}, p -> x.about(p, 6));
    }

    private static void character() {
        LoanChest x = Check.chest(2, 1000, "sureties 0;weeks 1;late 0;call 3;bar 9;");
        x.ask(0, 10);
        Check.same("with an open one", x.about(0, 1), 100);
        x.pay(0, 10);
        Check.same("repaid, never late", x.about(0, 1), 110);
        x.ask(0, 10);
        Check.weeks(x, 2);
        Check.same("late once", x.about(0, 1), 108);
        x.pay(0, 10);
        Check.same("repaid, once late", x.about(0, 1), 113);
        x.ask(0, 10);
        Check.weeks(x, 4);
        Check.same("called, late three times", x.about(0, 1), 77);
        Check.same("the other one", x.about(1, 1), 100);
        for (int i = 0; i < 3; i++) {
            x.ask(0, 10);
            Check.weeks(x, 4);
        }
        Check.same("not below 0", x.about(0, 1), 0);
        x.ask(0, 10);
        x.pay(0, 10);
        // 113 less 4 times 36, and 10 more, is still below 0: the bounds are for the answer alone.
        Check.same("still not above 0", x.about(0, 1), 0);
        for (int i = 0; i < 3; i++) {
            x.ask(0, 10);
            x.pay(0, 10);
        }
        Check.same("above 0", x.about(0, 1), 9);
        for (int i = 0; i < 12; i++) {
            x.ask(1, 10);
            x.pay(1, 10);
        }
        Check.same("not above 200", x.about(1, 1), 200);
        x.ask(1, 10);
        Check.weeks(x, 2);
        Check.same("220 less 2", x.about(1, 1), 200);
    }

    private static void barred() {
        LoanChest x = Check.chest(2, 1000, "sureties 0;weeks 1;late 0;call 1;bar 2;");
        x.ask(0, 10);
        Check.weeks(x, 2);
        Check.same("one called", x.about(0, 2), 0);
        x.ask(0, 10);
        Check.weeks(x, 2);
        Check.same("two called", x.about(0, 2), 1);
        Check.same("barred", x.ask(0, 10), -5);
        Check.rules(x, "sureties 0;bar 1;");
        Check.same("more than bar", x.about(0, 2), 1);
        Check.rules(x, "sureties 0;bar 3;");
        Check.same("below bar", x.about(0, 2), 0);
        Check.same("the other one", x.about(1, 2), 0);
    }

    private static void counts() {
        LoanChest x = Check.chest(3, 1000, "sureties 0;weeks 1;late 2;call 1;");
        x.fund(4, 77);
        x.ask(0, 10);
        x.ask(1, 10);
        x.pay(1, 10);
        Check.weeks(x, 2);
        x.ask(2, 5);
        x.feed(0, 0, 0, 0, 0);
        Check.row("count", new int[] {2, 3, 2, 3, 1, 12, 1077, 20, -1}, x::count);
        Check.same("count(-1)", x.count(-1), -1);
        Check.same("count(highest)", x.count(Integer.MAX_VALUE), -1);
        Check.same("count(lowest)", x.count(Integer.MIN_VALUE), -1);
    }
}
