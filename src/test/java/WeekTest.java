/** Promise 14: what is DUE, LATE and CALLED when a WEEK ends; promise 15: the book. */
public final class WeekTest {
    public static void main(String[] args) {
        whatIsDue();
        rowOfLateWeeks();
        rulesOfTheLoan();
        parted();
        lostWithoutSureties();
        book();
        lastWeek();
        Check.finish();
    }

    private static void whatIsDue() {
        LoanChest x = Check.chest(2, 1000, "sureties 0;weeks 3;late 1;call 20;");
        Check.weeks(x, 2);
        x.ask(0, 10);
        Check.same("its own week ends", x.next(), 3);
        Check.same("not late yet", x.loan(0, 6), 0);
        x.pay(0, 3);
        x.next();
        Check.same("3 of 4 is late", x.loan(0, 6), 1);
        Check.same("owes", x.owes(0), 8);
        x.pay(0, 5);
        Check.same("fines first", x.loan(0, 5), 1);
        Check.same("paid", x.loan(0, 3), 7);
        x.next();
        Check.same("7 of 7 is not late", x.loan(0, 6), 1);
        x.pay(0, 2);
        Check.weeks(x, 1);
        Check.same("9 of 10 is late", x.loan(0, 6), 2);
        Check.weeks(x, 4);
        Check.same("late on behind its weeks", x.loan(0, 6), 6);
        Check.same("fines", x.loan(0, 4), 6);
        Check.same("owes", x.owes(0), 6);
    }

    private static void rowOfLateWeeks() {
        LoanChest x = Check.chest(2, 1000, "sureties 0;weeks 10;late 0;call 3;");
        x.ask(0, 10);
        Check.weeks(x, 3);
        Check.same("late twice", x.loan(0, 6), 2);
        x.pay(0, 3);
        x.next();
        Check.same("the row ends", x.loan(0, 6), 2);
        Check.weeks(x, 2);
        Check.same("late twice more", x.loan(0, 6), 4);
        Check.same("open", x.loan(0, 7), 0);
        x.next();
        Check.same("called", x.loan(0, 7), 2);
        Check.same("late", x.loan(0, 6), 5);
        Check.weeks(x, 3);
        Check.same("no more late", x.loan(0, 6), 5);
        Check.same("open ones", x.count(4), 0);
    }

    private static void rulesOfTheLoan() {
        LoanChest x = Check.chest(2, 1000, "sureties 0;weeks 2;late 5;call 2;");
        x.ask(0, 10);
        Check.rules(x, "sureties 0;weeks 60;late 1;call 20;");
        x.ask(1, 60);
        x.pay(0, 4);
        Check.weeks(x, 2);
        Check.same("4 of 5, by its own weeks", x.loan(0, 6), 1);
        Check.same("its own fines", x.loan(0, 4), 5);
        Check.same("the other's fines", x.loan(1, 4), 1);
        x.next();
        Check.same("its own call", x.loan(0, 7), 2);
        Check.same("the other", x.loan(1, 7), 0);
    }

    private static void parted() {
        LoanChest x = Check.chest(4, 1000, "sureties 3;weeks 1;late 1;call 1;");
        Check.ask(x, 0, 10, 3, 1, 2);
        Check.weeks(x, 2);
        Check.same("rest 11: first", x.about(3, 6), 4);
        Check.same("rest 11: second", x.about(1, 6), 4);
        Check.same("rest 11: third", x.about(2, 6), 3);
        Check.same("borrower", x.owes(0), 0);
        Check.same("lost", x.count(5), 0);
        LoanChest y = Check.chest(4, 1000, "sureties 3;weeks 1;late 0;call 1;");
        Check.ask(y, 0, 2, 3, 1, 2);
        Check.weeks(y, 2);
        Check.row("a call of 0 is none", new int[] {0, 1, 0, 1}, p -> y.about(p, 5));
        Check.row("nor does it bar", new int[] {0, 1, 0, 1}, p -> y.about(p, 2));
        LoanChest z = Check.chest(4, 1000, "sureties 2;weeks 2;late 3;call 2;");
        Check.ask(z, 0, 9, 1, 2);
        Check.weeks(z, 2);
        z.pay(0, 5);
        z.next();
        Check.same("rest 7 + 3: first", z.about(1, 6), 5);
        Check.same("rest 7 + 3: second", z.about(2, 6), 5);
    }

    private static void lostWithoutSureties() {
        LoanChest x = Check.chest(2, 1000, "sureties 0;weeks 1;late 7;call 1;");
        x.ask(0, 10);
        x.ask(1, 20);
        x.pay(0, 4);
        Check.weeks(x, 2);
        Check.same("lost", x.count(5), 6 + 7 + 20 + 7);
        Check.same("owes", x.owes(0), 0);
        Check.same("not barred", x.about(0, 2), 0);
        Check.same("chest", x.chest(0, 2), 974);
    }

    private static void book() {
        LoanChest x = new LoanChest();
        x.person(1);
        Check.rules(x, "sureties 0;");
        x.gift(0, 10);
        x.next();
        Check.same("fund", x.fund(0, 5), 1);
        x.gift(0, 1);
        Check.same("fund 1 in week 0", x.chest(1, 0), -1);
        Check.same("fund 1 now", x.chest(1, 1), 5);
        x.next();
        x.gift(1, 3);
        x.ask(0, 2);
        Check.row("fund 0", new int[] {10, 11, 11, -1}, w -> x.chest(0, w));
        Check.row("fund 1", new int[] {-1, 5, 6, -1}, w -> x.chest(1, w));
        x.next();
        x.pay(0, 2);
        Check.row("fund 1", new int[] {-1, 5, 6, 8, -1}, w -> x.chest(1, w));
        Check.same("week -1", x.chest(0, -1), -1);
        Check.same("fund 2", x.chest(2, 0), -1);
        Check.same("fund -1", x.chest(-1, 0), -1);
        Check.same("week highest", x.chest(0, Integer.MAX_VALUE), -1);
    }

    private static void lastWeek() {
        LoanChest x = Check.chest(1, 1000, "sureties 0;weeks 60;late 1;call 20;");
        for (int w = 1; w <= 395; w++) {
            Check.same("next", x.next(), w);
        }
        x.ask(0, 60);
        Check.weeks(x, 5);
        Check.same("week", x.count(0), 400);
        Check.same("late", x.loan(0, 6), 4);
        Check.same("next at 400", x.next(), -1);
        Check.same("week", x.count(0), 400);
        Check.same("nothing ended", x.loan(0, 6), 4);
        Check.same("chest(0, 400)", x.chest(0, 400), 940);
        Check.same("chest(0, 399)", x.chest(0, 399), 940);
        Check.same("chest(0, 394)", x.chest(0, 394), 1000);
        Check.same("chest(0, 401)", x.chest(0, 401), -1);
        x.gift(0, 1);
        Check.same("now", x.chest(0, 400), 941);
        Check.same("then", x.chest(0, 399), 940);
    }
}
