/** The edges that promises 16 to 21 name, and the Terms' words on who STANDS, RINGS and CHARACTER. */
public final class TellingEdgesTest {
    private static final int LOWEST = Integer.MIN_VALUE;
    private static final int HIGHEST = Integer.MAX_VALUE;
    private static final long THROWS = Check.THROWS;

    public static void main(String[] args) {
        throwsAndChangesNothing();
        ofALoan();
        noSuchSurety();
        noSuchFund();
        ofAPerson();
        openLoanOrNone();
        callsNotAllPaid();
        barredTold();
        standsFor();
        characterUp();
        characterDown();
        characterOfOwnLoans();
        ringOfTwoToForty();
        shortestRing();
        noRing();
        counts();
        fiveHundredAndTwelveCalls();
        Check.finish();
    }

    private static void throwsAndChangesNothing() {
        Check.words("A call that throws changes nothing.");
        int[] wrong = {-1, 400, LOWEST, HIGHEST};
        for (int one : wrong) {
            for (int other : new int[] {0, -1, 400, LOWEST, HIGHEST}) {
                String both = "(" + one + ", " + other + ")";
                Twins.same("loan" + both, THROWS, chest -> chest.loan(one, other));
                Twins.same("surety" + both, THROWS, chest -> chest.surety(one, other));
                Twins.same("taken" + both, THROWS, chest -> chest.taken(one, other));
                Twins.same("about" + both, THROWS, chest -> chest.about(one, other));
            }
        }
        for (int what : new int[] {-1, 10, LOWEST, HIGHEST}) {
            for (int number = 0; number < 6; number++) {
                throwsForAnother(what, number);
            }
        }
    }

    /** In busy() there are six PEOPLE and three LOANS, each with one SURETY, and three FUNDS. */
    private static void throwsForAnother(int what, int number) {
        String both = "(" + number + ", " + what + ")";
        Twins.same("loan" + both, THROWS, chest -> chest.loan(number, what));
        Twins.same("surety" + both, THROWS, chest -> chest.surety(number, what));
        Twins.same("taken" + both, THROWS, chest -> chest.taken(number, what));
        Twins.same("about" + both, THROWS, chest -> chest.about(number, what));
    }

    private static void ofALoan() {
        Check.words("Of LOAN k: 0 borrower, 1 AMOUNT, 2 WEEK in which it began, 3 PAID, 4 FINES laid on it, 5 of these "
            + "what came, 6 how often it was LATE, 7 its state (0 OPEN, 1 REPAID, 2 CALLED), 8 how many SURETIES, 9 of "
            + "the AMOUNT what came back in all (by CALLS, too). NoSuchElementException: there is none such, or "
            + "another what.");
        LoanChest x = new LoanChest();
        Twins.busy(x);
        Check.row("loan(0, ..)", new int[] {0, 50, 0, 0, 6, 0, 2, 2, 1, 7}, what -> x.loan(0, what));
        Check.row("loan(1, ..)", new int[] {3, 60, 1, 0, 3, 2, 1, 0, 1, 0}, what -> x.loan(1, what));
        Check.row("loan(2, ..)", new int[] {4, 20, 1, 20, 0, 0, 0, 1, 1, 20}, what -> x.loan(2, what));
        for (int k = 0; k < 3; k++) {
            int of = k;
            Check.refuses("loan(" + k + ", 10)", () -> x.loan(of, 10));
            Check.refuses("loan(" + k + ", -1)", () -> x.loan(of, -1));
        }
        for (int what = -1; what <= 10; what++) {
            int of = what;
            Check.refuses("loan(3, " + what + ")", () -> x.loan(3, of));
            Check.refuses("loan(-1, " + what + ")", () -> x.loan(-1, of));
        }
        LoanChest y = new LoanChest();
        Check.refuses("loan(0, 0) without a loan", () -> y.loan(0, 0));
    }

    private static void noSuchSurety() {
        Check.words("SURETY i of LOAN k. NoSuchElementException: there is none such.");
        for (int howMany = 0; howMany <= 3; howMany++) {
            LoanChest x = Check.chest(5, 100, "sureties " + howMany + ";");
            int[] sureties = java.util.Arrays.copyOf(new int[] {4, 1, 3}, howMany);
            Check.ask(x, 2, 10, sureties);
            Check.row("surety", sureties, i -> x.surety(0, i));
            int behind = howMany;
            Check.refuses("surety(0, " + behind + ")", () -> x.surety(0, behind));
            Check.refuses("surety(0, -1)", () -> x.surety(0, -1));
            Check.refuses("surety(1, 0)", () -> x.surety(1, 0));
            Check.refuses("surety(-1, 0)", () -> x.surety(-1, 0));
            x.pay(2, 10);
            Check.row("surety of a loan that was repaid", sureties, i -> x.surety(0, i));
        }
    }

    private static void noSuchFund() {
        Check.words("What LOAN k took from FUND f. NoSuchElementException: no such ones.");
        LoanChest x = new LoanChest();
        x.person(1);
        x.gift(0, 10);
        Check.rules(x, "sureties 0;weeks 60;late 0;call 20;");
        x.ask(0, 4);
        for (int f = 1; f < 6; f++) {
            int next = f;
            Check.refuses("taken(0, " + f + ")", () -> x.taken(0, next));
            x.next();
            x.fund(0, 5);
            Check.same("taken(0, " + f + ") of a fund that came later", x.taken(0, f), 0);
        }
        Check.refuses("taken(0, 6)", () -> x.taken(0, 6));
        Check.refuses("taken(0, -1)", () -> x.taken(0, -1));
        Check.refuses("taken(1, 0)", () -> x.taken(1, 0));
        Check.refuses("taken(-1, 0)", () -> x.taken(-1, 0));
        x.pay(0, 4);
        x.ask(0, 27);
        Check.row("taken(1, ..)", new int[] {2, 5, 5, 5, 5, 5}, f -> x.taken(1, f));
        Check.row("taken(0, ..)", new int[] {4, 0, 0, 0, 0, 0}, f -> x.taken(0, f));
    }

    private static void ofAPerson() {
        Check.words("Of a person: 0 TAGS, 1 CHARACTER, 2 1 if BARRED, 3 the OPEN LOAN (NONE), 4 how many OPEN LOANS "
            + "one STANDS for, 5 CALLS that are not all PAID, 6 what is owed by these. NoSuchElementException: no such "
            + "one, or another what.");
        LoanChest x = new LoanChest();
        Twins.busy(x);
        Check.row("about(0, ..)", new int[] {0, 66, 1, -1, 0, 0, 0}, what -> x.about(0, what));
        Check.row("about(1, ..)", new int[] {1, 100, 1, -1, 0, 1, 49}, what -> x.about(1, what));
        Check.row("about(2, ..)", new int[] {128, 100, 0, -1, 1, 0, 0}, what -> x.about(2, what));
        Check.row("about(3, ..)", new int[] {129, 98, 0, 1, 0, 0, 0}, what -> x.about(3, what));
        Check.row("about(4, ..)", new int[] {255, 110, 0, -1, 0, 0, 0}, what -> x.about(4, what));
        for (int p = 0; p < 6; p++) {
            int of = p;
            Check.refuses("about(" + p + ", 7)", () -> x.about(of, 7));
            Check.refuses("about(" + p + ", -1)", () -> x.about(of, -1));
        }
        for (int what = -1; what <= 7; what++) {
            int of = what;
            Check.refuses("about(6, " + what + ")", () -> x.about(6, of));
            Check.refuses("about(-1, " + what + ")", () -> x.about(-1, of));
        }
    }

    private static void openLoanOrNone() {
        Check.words("3 the OPEN LOAN (NONE)");
        LoanChest x = Check.chest(3, 500, "sureties 0;weeks 1;late 0;call 1;");
        Check.same("ahead of any", x.about(2, 3), -1);
        x.ask(1, 5);
        x.ask(2, 5);
        Check.row("open loan", new int[] {-1, 0, 1}, p -> x.about(p, 3));
        x.pay(1, 4);
        Check.row("a penny is missing", new int[] {-1, 0, 1}, p -> x.about(p, 3));
        x.pay(1, 1);
        Check.row("repaid", new int[] {-1, -1, 1}, p -> x.about(p, 3));
        Check.weeks(x, 2);
        Check.row("called", new int[] {-1, -1, -1}, p -> x.about(p, 3));
        x.ask(2, 5);
        Check.row("another one", new int[] {-1, -1, 2}, p -> x.about(p, 3));
    }

    private static void callsNotAllPaid() {
        Check.words("5 CALLS that are not all PAID, 6 what is owed by these");
        LoanChest x = Check.chest(4, 500, "sureties 1;weeks 1;late 0;call 1;stands 9;");
        for (int p = 0; p < 3; p++) {
            Check.ask(x, p, 5, 3);
        }
        Check.row("none yet", new int[] {0, 0}, i -> x.about(3, 5 + i));
        Check.weeks(x, 2);
        for (int paid = 0; paid < 15; paid++) {
            Check.row("behind " + paid, new int[] {3 - paid / 5, 15 - paid}, i -> x.about(3, 5 + i));
            x.pay(3, 1);
        }
        Check.row("none more", new int[] {0, 0}, i -> x.about(3, 5 + i));
        Check.row("the borrowers have none", new int[] {0, 0, 0}, p -> x.about(p, 5));
    }

    private static void barredTold() {
        Check.words("BARRED: who has a CALL that is not all PAID, or has as many LOANS CALLED as bar tells");
        LoanChest x = Check.chest(4, 500, "sureties 1;weeks 1;late 0;call 1;bar 2;");
        Check.ask(x, 0, 5, 1);
        Check.row("nobody", new int[] {0, 0, 0, 0}, p -> x.about(p, 2));
        Check.weeks(x, 2);
        Check.row("one call", new int[] {0, 1, 0, 0}, p -> x.about(p, 2));
        x.pay(1, 4);
        Check.row("a penny is missing", new int[] {0, 1, 0, 0}, p -> x.about(p, 2));
        x.pay(1, 1);
        Check.row("paid", new int[] {0, 0, 0, 0}, p -> x.about(p, 2));
        Check.ask(x, 0, 5, 1);
        Check.weeks(x, 2);
        x.pay(1, 5);
        Check.row("two called", new int[] {1, 0, 0, 0}, p -> x.about(p, 2));
        Check.rules(x, "bar 3;");
        Check.row("bar is of now", new int[] {0, 0, 0, 0}, p -> x.about(p, 2));
        Check.rules(x, "bar 1;");
        Check.row("bar is of now", new int[] {1, 0, 0, 0}, p -> x.about(p, 2));
    }

    private static void standsFor() {
        Check.words("One STANDS for OPEN LOANS of which one is a SURETY.");
        LoanChest x = Check.chest(6, 500, "sureties 3;stands 9;ring 0;weeks 1;call 1;late 0;bar 9;");
        for (int p = 0; p < 3; p++) {
            Check.ask(x, p, 6, 3, 4, 5);
            int due = p + 1;
            Check.row("stands", new int[] {0, 0, 0, due, due, due}, q -> x.about(q, 4));
        }
        x.pay(1, 5);
        Check.same("a penny is missing", x.about(5, 4), 3);
        x.pay(1, 1);
        Check.row("one was repaid", new int[] {0, 0, 0, 2, 2, 2}, q -> x.about(q, 4));
        Check.weeks(x, 2);
        Check.row("all were called", new int[] {0, 0, 0, 0, 0, 0}, q -> x.about(q, 4));
        Check.row("calls", new int[] {0, 0, 0, 2, 2, 2}, q -> x.about(q, 5));
    }

    private static void borrowAndPay(LoanChest x, int howOften) {
        for (int i = 0; i < howOften; i++) {
            x.ask(0, 1);
            x.pay(0, 1);
        }
    }

    private static void borrowAndBeLate(LoanChest x) {
        x.ask(0, 1);
        Check.weeks(x, 2);
        x.pay(0, x.owes(0));
    }

    private static void characterUp() {
        Check.words("CHARACTER: 100, and 10 for each LOAN REPAID that was never LATE, 5 for each other one REPAID");
        LoanChest x = Check.chest(2, 500, "sureties 0;weeks 1;late 0;call 20;");
        Check.same("at first", x.about(0, 1), 100);
        for (int i = 1; i <= 10; i++) {
            x.ask(0, 1);
            Check.same("open", x.about(0, 1), 90 + 10 * i);
            x.pay(0, 1);
            Check.same("repaid " + i, x.about(0, 1), 100 + 10 * i);
        }
        borrowAndPay(x, 1);
        Check.same("200 at most", x.about(0, 1), 200);
        LoanChest y = Check.chest(2, 500, "sureties 0;weeks 1;late 0;call 20;");
        borrowAndBeLate(y);
        Check.same("5 less 2", y.about(0, 1), 103);
        borrowAndPay(y, 9);
        Check.same("ahead of 200", y.about(0, 1), 193);
        borrowAndBeLate(y);
        Check.same("5 less 2 more", y.about(0, 1), 196);
        borrowAndBeLate(y);
        Check.same("ahead of 200", y.about(0, 1), 199);
        borrowAndBeLate(y);
        Check.same("200 at most", y.about(0, 1), 200);
        // It is 202 by its parts: the bound is for what is told, and a time LATE brings it to 200.
        y.ask(0, 1);
        Check.weeks(y, 2);
        Check.same("202 less 2", y.about(0, 1), 200);
        y.next();
        Check.same("202 less 4", y.about(0, 1), 198);
    }

    private static void characterDown() {
        Check.words("less 2 for each time that LOANS of one's were LATE, less 30 for each CALLED; 0 to 200");
        LoanChest x = Check.chest(2, 500, "sureties 0;weeks 1;late 0;call 3;bar 9;");
        x.ask(0, 1);
        x.next();
        Check.same("not late yet", x.about(0, 1), 100);
        x.next();
        Check.same("late once", x.about(0, 1), 98);
        x.next();
        Check.same("late twice", x.about(0, 1), 96);
        x.next();
        Check.same("called", x.about(0, 1), 64);
        x.ask(0, 1);
        Check.weeks(x, 4);
        Check.same("called twice", x.about(0, 1), 28);
        x.ask(0, 1);
        Check.weeks(x, 3);
        Check.same("late twice more", x.about(0, 1), 24);
        x.next();
        Check.same("0 at least", x.about(0, 1), 0);
        borrowAndPay(x, 1);
        Check.same("-8 and 10", x.about(0, 1), 2);
        LoanChest y = Check.chest(2, 500, "sureties 0;weeks 1;late 0;call 20;bar 9;");
        y.ask(0, 1);
        Check.weeks(y, 21);
        Check.same("called, late 20 times", y.about(0, 1), 30);
        y.ask(0, 1);
        Check.weeks(y, 15);
        Check.same("late 14 times more", y.about(0, 1), 2);
        y.next();
        Check.same("0 just", y.about(0, 1), 0);
        y.next();
        Check.same("0 still", y.about(0, 1), 0);
        y.pay(0, 1);
        Check.same("-2 and 5", y.about(0, 1), 3);
    }

    private static void characterOfOwnLoans() {
        Check.words("LOANS of one's");
        LoanChest x = Check.chest(3, 500, "sureties 1;weeks 1;late 0;call 2;");
        Check.ask(x, 0, 5, 1);
        Check.weeks(x, 3);
        Check.row("a surety's is not touched", new int[] {66, 100, 100}, p -> x.about(p, 1));
        x.pay(1, 5);
        Check.row("nor by paying a call", new int[] {66, 100, 100}, p -> x.about(p, 1));
    }

    private static void ringOfTwoToForty() {
        Check.words("RING: PEOPLE in a row, each a SURETY of the OPEN LOAN of the one ahead, the first one of the last "
            + "one's; its length: how many they are");
        for (int length : new int[] {2, 3, 10, 39, 40}) {
            LoanChest x = Check.chest(40, 1000, "sureties 1;ring 0;");
            for (int p = 0; p < length; p++) {
                Check.ask(x, p, 1, (p + 1) % length);
                if (p + 1 < length) {
                    Check.same("not closed yet", x.ring(p), -1);
                }
            }
            for (int p = 0; p < 40; p++) {
                Check.same("ring of " + length, x.ring(p), p < length ? length : -1);
            }
        }
    }

    private static void shortestRing() {
        Check.words("The length of the shortest RING that one is in");
        LoanChest x = Check.chest(8, 1000, "sureties 3;stands 9;ring 0;");
        Check.ask(x, 0, 1, 1, 2, 7);
        Check.ask(x, 1, 1, 2, 6, 7);
        Check.ask(x, 2, 1, 3, 6, 7);
        Check.ask(x, 3, 1, 6, 7, 0);
        Check.row("0 2 3, and 0 1 2 3", new int[] {3, 4, 3, 3, -1, -1, -1, -1}, x::ring);
        Check.ask(x, 6, 1, 5, 4, 2);
        Check.row("2 6, too", new int[] {3, 4, 2, 3, -1, -1, 2, -1}, x::ring);
        x.pay(6, 1);
        Check.row("that was repaid", new int[] {3, 4, 3, 3, -1, -1, -1, -1}, x::ring);
        x.pay(2, 1);
        Check.row("so was the way round", new int[] {-1, -1, -1, -1, -1, -1, -1, -1}, x::ring);
    }

    private static void noRing() {
        Check.words("NONE: none, or no such one.");
        LoanChest x = Check.chest(5, 1000, "sureties 1;stands 9;ring 0;");
        Check.ask(x, 0, 1, 1);
        Check.ask(x, 1, 1, 0);
        Check.ask(x, 2, 1, 0);
        Check.row("a way into a ring is none", new int[] {2, 2, -1, -1, -1}, x::ring);
        LoanChest y = Check.chest(5, 1000, "sureties 2;stands 9;ring 0;");
        Check.ask(y, 0, 1, 1, 3);
        Check.ask(y, 1, 1, 0, 4);
        Check.row("a way out of a ring is none", new int[] {2, 2, -1, -1, -1}, y::ring);
        for (int person : new int[] {-1, 6, 39, 40, 64, LOWEST, HIGHEST}) {
            Twins.same("ring(" + person + ")", -1, chest -> chest.ring(person));
        }
        Check.same("ring(0) of a new one", new LoanChest().ring(0), -1);
        LoanChest z = Check.chest(3, 1000, "sureties 1;ring 0;weeks 1;call 1;");
        Check.ask(z, 0, 5, 1);
        z.next();
        Check.ask(z, 1, 5, 0);
        Check.row("a ring", new int[] {2, 2}, z::ring);
        z.next();
        Check.row("one of its loans was called", new int[] {-1, -1}, z::ring);
        Check.same("the other one is open", z.loan(1, 7), 0);
    }

    private static void counts() {
        Check.words("0 WEEK, 1 PEOPLE, 2 FUNDS, 3 LOANS, 4 OPEN ones, 5 pence LOST, 6 pence given in all (by fund() "
            + "and gift()), 7 bytes of the tape. NONE for another what.");
        LoanChest x = new LoanChest();
        Twins.busy(x);
        Check.row("count", new int[] {3, 6, 3, 3, 1, 0, 570, 25, -1}, x::count);
        for (int what : new int[] {-1, 8, 9, 256, LOWEST, HIGHEST}) {
            Twins.same("count(" + what + ")", -1, chest -> chest.count(what));
        }
        LoanChest y = Check.chest(3, 100, "sureties 0;weeks 1;call 1;late 0;");
        for (int p = 0; p < 3; p++) {
            Check.same("open ones", y.count(4), p);
            y.ask(p, 5);
        }
        y.pay(1, 4);
        Check.same("a penny is missing", y.count(4), 3);
        y.pay(1, 1);
        Check.same("one was repaid", y.count(4), 2);
        Check.weeks(y, 2);
        Check.same("the others were called", y.count(4), 0);
        Check.same("lost", y.count(5), 10);
        Check.same("loans", y.count(3), 3);
        // What comes back, and what is refused, is not given.
        x.pay(1, 49);
        x.gift(0, 0);
        x.fund(8, 5);
        Check.same("given", x.count(6), 570);
    }

    private static void fiveHundredAndTwelveCalls() {
        Check.words("An object is used for at most 512 calls after it has been made");
        LoanChest x = new LoanChest();
        for (int p = 0; p < 40; p++) {
            Check.same("person", x.person(0), p);
        }
        for (int i = 1; i <= 16; i++) {
            Check.same("feed", x.feed(0, 0, 0, 0, 0), 20 * i);
        }
        for (int i = 1; i <= 10; i++) {
            Check.same("gift", x.gift(0, 100000), 100000 * i);
        }
        for (int w = 1; w <= 400; w++) {
            Check.same("next", x.next(), w);
        }
        for (int i = 1; i <= 5; i++) {
            Check.same("fund", x.fund(0, 100000), i);
        }
        for (int i = 472; i < 511; i++) {
            Check.same("next, call " + i, x.next(), -1);
        }
        Check.same("call 511", x.count(6), 1500000);
        Check.same("call 512", x.chest(0, 0), 1000000);
    }
}
