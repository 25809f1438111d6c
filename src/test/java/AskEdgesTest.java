/** The edges that promise 11 and part 3 of the Terms name: from which FUNDS a LOAN is, and why one is REFUSED. */
public final class AskEdgesTest {
    private static final int LOWEST = Integer.MIN_VALUE;
    private static final int HIGHEST = Integer.MAX_VALUE;

    public static void main(String[] args) {
        numbersAndRefusals();
        byRisingNumbers();
        aboveKeep();
        noSuchOne();
        amountNot1ToMost();
        hundredLoans();
        anOpenLoan();
        barredByACall();
        barredByCalledLoans();
        notAsManySureties();
        noneOfPeople();
        theBorrower();
        thereTwice();
        oneIsBarred();
        standsForAsMany();
        ringNotAbove();
        ringNeedsThisLoan();
        notSoMuch();
        firstOfTheReasons();
        Check.finish();
    }

    /** The LOAN is REFUSED for that reason, and nothing but the tape is changed by it. */
    private static void refused(int why, Twins.Deed before, int person, int amount, int... sureties) {
        Twins.sameButTape("ask(" + person + ", " + amount + ") with " + sureties.length + " sureties", -1 - why,
            before, chest -> Check.ask(chest, person, amount, sureties));
    }

    private static Twins.Deed chest(int people, int pence, String rules) {
        return chest -> {
            Check.people(chest, people);
            chest.gift(0, pence);
            Check.rules(chest, rules);
        };
    }

    private static Twins.Deed both(Twins.Deed first, Twins.Deed second) {
        return chest -> {
            first.on(chest);
            second.on(chest);
        };
    }

    private static void numbersAndRefusals() {
        Check.words("the LOAN's number; -1 less why it is REFUSED");
        LoanChest x = Check.chest(4, 100, "sureties 0;");
        Check.same("first", x.ask(3, 1), 0);
        Check.same("refused", x.ask(3, 1), -4);
        Check.same("second: a refused one has no number", x.ask(0, 1), 1);
        Check.same("loans", x.count(3), 2);
        Check.same("chest", x.chest(0, 0), 98);
    }

    private static LoanChest sixFunds(int tags, int inFund0) {
        LoanChest x = new LoanChest();
        x.person(tags);
        if (inFund0 > 0) {
            x.gift(0, inFund0);
        }
        for (int f = 1; f < 6; f++) {
            x.fund(f == 5 ? 1 : f, 10);
        }
        Check.rules(x, "sureties 0;keep 4;");
        return x;
    }

    private static void takes(int tags, int amount, int... due) {
        LoanChest x = sixFunds(tags, 14);
        Check.same("ask for " + amount, x.ask(0, amount), 0);
        Check.row("taken of " + amount, due, f -> x.taken(0, f));
        Check.row("chest", new int[] {14 - due[0], 10 - due[1], 10 - due[2], 10 - due[3], 10 - due[4], 10 - due[5]},
            f -> x.chest(f, 0));
    }

    private static void byRisingNumbers() {
        Check.words("A LOAN is taken from FUNDS whose TAG the borrower has, by rising numbers, then from FUND 0, "
            + "from each as much as it has");
        takes(255, 1, 0, 1, 0, 0, 0, 0);
        takes(255, 10, 0, 10, 0, 0, 0, 0);
        takes(255, 11, 0, 10, 1, 0, 0, 0);
        takes(255, 50, 0, 10, 10, 10, 10, 10);
        takes(255, 51, 1, 10, 10, 10, 10, 10);
        takes(255, 60, 10, 10, 10, 10, 10, 10);
        // FUNDS 1 and 5 have the same TAG.
        takes(1 << 1, 21, 1, 10, 0, 0, 0, 10);
        takes(1 << 4 | 1 << 3, 12, 0, 0, 0, 10, 2, 0);
        takes(0, 10, 10, 0, 0, 0, 0, 0);
        takes(1 << 5 | 1 << 6, 1, 1, 0, 0, 0, 0, 0);
        LoanChest x = sixFunds(1 << 2, 14);
        Check.same("all of fund 2", x.ask(0, 10), 0);
        x.pay(0, 9);
        Check.same("its funds are told still", x.taken(0, 2), 10);
    }

    private static void aboveKeep() {
        Check.words("of FUND 0 what is above keep");
        Check.same("all above keep", Check.chest(1, 50, "sureties 0;keep 20;").ask(0, 30), 0);
        Check.same("one more", Check.chest(1, 50, "sureties 0;keep 20;").ask(0, 31), -11);
        Check.same("one above keep", Check.chest(1, 50, "sureties 0;keep 49;").ask(0, 1), 0);
        Check.same("as much as keep", Check.chest(1, 50, "sureties 0;keep 50;").ask(0, 1), -11);
        Check.same("below keep", Check.chest(1, 50, "sureties 0;keep 99999;").ask(0, 1), -11);
        Check.same("without keep", Check.chest(1, 50, "sureties 0;keep 0;").ask(0, 50), 0);
        // Keep is of FUND 0 alone: the others lend all, and what FUND 0 lacks is not taken off them.
        Check.same("all of the others", sixFunds(255, 4).ask(0, 50), 0);
        Check.same("one more", sixFunds(255, 4).ask(0, 51), -11);
        Check.same("all of the others with fund 0 below keep", sixFunds(255, 0).ask(0, 50), 0);
        Check.same("and one more", sixFunds(255, 5).ask(0, 51), 0);
    }

    private static void noSuchOne() {
        Check.words("1 no such one");
        for (int person : new int[] {-1, 3, 40, 255, LOWEST, HIGHEST}) {
            refused(1, chest(3, 100, ""), person, 5, 1, 2);
            refused(1, chest(3, 100, "sureties 0;"), person, 5);
        }
        refused(1, chest(0, 100, "sureties 0;"), 0, 5);
        LoanChest x = Check.chest(40, 100, "sureties 0;");
        Check.same("the last one of 40", x.ask(39, 1), 0);
        Check.same("one more", x.ask(40, 1), -2);
    }

    private static void amountNot1ToMost() {
        Check.words("2 an AMOUNT that is not 1 to most");
        Twins.Deed some = chest(2, 20000, "sureties 0;most 30;");
        for (int amount : new int[] {0, -1, 31, 100, LOWEST, HIGHEST}) {
            refused(2, some, 0, amount);
        }
        Check.same("1", Check.chest(1, 50, "sureties 0;most 30;").ask(0, 1), 0);
        Check.same("most", Check.chest(1, 50, "sureties 0;most 30;").ask(0, 30), 0);
        Check.same("100 without a text", Check.ask(Check.chest(3, 500, ""), 0, 100, 1, 2), 0);
        Check.same("101 without a text", Check.ask(Check.chest(3, 500, ""), 0, 101, 1, 2), -3);
        Check.same("1 with most 1", Check.chest(1, 50, "sureties 0;most 1;").ask(0, 1), 0);
        Check.same("2 with most 1", Check.chest(1, 50, "sureties 0;most 1;").ask(0, 2), -3);
        Check.same("9999 with most 9999", Check.chest(1, 9999, "sureties 0;most 9999;").ask(0, 9999), 0);
        refused(2, chest(2, 20000, "sureties 0;most 9999;"), 0, 10000);
    }

    private static void hundredLoans() {
        Check.words("LOANS 0, 1, .. (100 at most); or there are 100 LOANS");
        LoanChest x = Check.chest(3, 500, "sureties 0;");
        for (int k = 0; k < 99; k++) {
            Check.same("loan " + k, x.ask(0, 1), k);
            x.pay(0, 1);
        }
        Check.same("the last one", x.ask(0, 1), 99);
        Check.same("one more", x.ask(1, 1), -3);
        Check.same("one more, ahead of that it is open", x.ask(0, 1), -3);
        Check.same("one more, ahead of how many sureties", Check.ask(x, 1, 1, 2), -3);
        Check.same("behind that there is no such one", x.ask(3, 1), -2);
        x.pay(0, 1);
        Check.same("one more, though none is open", x.ask(0, 1), -3);
        Check.same("loans", x.count(3), 100);
        Check.same("open", x.count(4), 0);
        Check.same("chest", x.chest(0, 0), 500);
        Check.same("loan(99, 7)", x.loan(99, 7), 1);
        Check.refuses("loan(100, 0)", () -> x.loan(100, 0));
        Check.refuses("surety(100, 0)", () -> x.surety(100, 0));
        Check.refuses("taken(100, 0)", () -> x.taken(100, 0));
    }

    private static void anOpenLoan() {
        Check.words("3 an OPEN LOAN");
        Twins.Deed one = both(chest(4, 100, "sureties 0;weeks 1;call 1;bar 9;"), chest -> chest.ask(0, 10));
        refused(3, one, 0, 5);
        refused(3, both(one, chest -> chest.pay(0, 9)), 0, 5);
        LoanChest x = Check.chest(4, 100, "sureties 0;weeks 1;call 1;bar 9;");
        x.ask(0, 10);
        x.pay(0, 9);
        Check.same("another one's", x.ask(1, 5), 1);
        x.pay(0, 1);
        Check.same("repaid", x.ask(0, 5), 2);
        Check.weeks(x, 2);
        Check.same("called", x.ask(0, 5), 3);
    }

    /** A LOAN of 0, of 10 pence, was CALLED: 1 and 2 have a CALL of 5 each. */
    private static Twins.Deed withCalls(String more) {
        return both(chest(8, 500, "sureties 2;weeks 1;late 0;call 1;" + more), chest -> {
            Check.ask(chest, 0, 10, 1, 2);
            Check.weeks(chest, 2);
        });
    }

    private static void barredByACall() {
        Check.words("4 BARRED; who has a CALL that is not all PAID");
        refused(4, withCalls("bar 9;"), 1, 5, 3, 4);
        refused(4, both(withCalls("bar 9;"), chest -> chest.pay(1, 4)), 1, 5, 3, 4);
        LoanChest x = new LoanChest();
        withCalls("bar 9;").on(x);
        x.pay(1, 4);
        Check.same("a penny is missing", x.about(1, 2), 1);
        x.pay(1, 1);
        Check.same("all paid", x.about(1, 2), 0);
        Check.same("all paid", Check.ask(x, 1, 5, 3, 4), 1);
        Check.same("the other one", x.about(2, 2), 1);
    }

    private static LoanChest calledOf0(int howOften, String rules) {
        LoanChest x = Check.chest(3, 500, "sureties 0;weeks 1;late 0;call 1;bar 9;");
        for (int i = 0; i < howOften; i++) {
            x.ask(0, 1);
            Check.weeks(x, 2);
        }
        Check.rules(x, rules);
        return x;
    }

    private static void barredByCalledLoans() {
        Check.words("or has as many LOANS CALLED as bar tells");
        for (int bar : new int[] {1, 2, 3, 9}) {
            String rules = "sureties 0;bar " + bar + ";";
            Check.same("one less than " + bar, calledOf0(bar - 1, rules).ask(0, 1), bar - 1);
            Check.same("as many as " + bar, calledOf0(bar, rules).ask(0, 1), -5);
            Check.same("told as many as " + bar, calledOf0(bar, rules).about(0, 2), 1);
            Check.same("told one less than " + bar, calledOf0(bar - 1, rules).about(0, 2), 0);
        }
        Check.same("more than bar, now lowered", calledOf0(3, "sureties 0;bar 2;").ask(0, 1), -5);
        Check.same("three without a text", calledOf0(3, "").about(0, 2), 1);
        Check.same("two without a text", calledOf0(2, "").about(0, 2), 0);
        Check.same("another one", calledOf0(3, "sureties 0;bar 1;").ask(1, 1), 3);
        LoanChest x = Check.chest(1, 100, "sureties 0;bar 1;");
        x.ask(0, 1);
        x.pay(0, 1);
        Check.same("repaid is not called", x.ask(0, 1), 1);
    }

    private static void notAsManySureties() {
        Check.words("5 not as many SURETIES as sureties tells");
        int[] all = {1, 2, 3, 4};
        for (int due = 0; due <= 3; due++) {
            for (int have = 0; have <= 4; have++) {
                int[] sureties = java.util.Arrays.copyOf(all, have);
                Twins.Deed before = chest(6, 100, "sureties " + due + ";");
                if (have != due) {
                    refused(5, before, 0, 5, sureties);
                } else {
                    LoanChest x = new LoanChest();
                    before.on(x);
                    Check.same(have + " sureties", Check.ask(x, 0, 5, sureties), 0);
                    Check.same("told", x.loan(0, 8), have);
                    Check.row("surety", sureties, i -> x.surety(0, i));
                }
            }
        }
        LoanChest x = Check.chest(40, 100, "sureties 3;");
        for (int i = 0; i < 16; i++) {
            x.feed(0x01020304, 0x05060708, 0x090a0b0c, 0x0d0e0f10, 0x11121314);
        }
        Check.same("320 of them", x.ask(0, 5), -6);
        Check.same("bytes", x.count(7), 0);
    }

    /** Those three, with another one at each place in turn, are REFUSED for that reason. */
    private static void refusedAtEachPlace(int why, Twins.Deed before, int person, int other) {
        for (int place = 0; place < 3; place++) {
            int[] sureties = {5, 6, 7};
            sureties[place] = other;
            refused(why, before, person, 5, sureties);
        }
    }

    private static void noneOfPeople() {
        Check.words("6 one of them is none of PEOPLE");
        Twins.Deed eight = chest(8, 100, "sureties 3;");
        for (int other : new int[] {8, 39, 40, 64, 65, 128, 192, 255}) {
            refusedAtEachPlace(6, eight, 0, other);
        }
        LoanChest x = new LoanChest();
        eight.on(x);
        Check.same("the last one of people", Check.ask(x, 0, 5, 7, 6, 5), 0);
        LoanChest y = Check.chest(40, 100, "sureties 3;");
        Check.same("39 of 40", Check.ask(y, 0, 5, 39, 1, 38), 0);
        Check.same("40 of 40", Check.ask(y, 1, 5, 40, 2, 38), -7);
    }

    private static void theBorrower() {
        Check.words("or the borrower");
        refusedAtEachPlace(6, chest(8, 100, "sureties 3;ring 0;"), 0, 0);
        refusedAtEachPlace(6, chest(8, 100, "sureties 3;ring 0;"), 4, 4);
        refused(6, chest(8, 100, "sureties 1;ring 0;"), 7, 5, 7);
    }

    private static void thereTwice() {
        Check.words("or is there twice");
        Twins.Deed eight = chest(8, 100, "sureties 3;");
        refused(6, eight, 0, 5, 1, 1, 2);
        refused(6, eight, 0, 5, 1, 2, 1);
        refused(6, eight, 0, 5, 2, 1, 1);
        refused(6, eight, 0, 5, 1, 1, 1);
        refused(6, chest(8, 100, "sureties 2;"), 1, 5, 0, 0);
    }

    private static void oneIsBarred() {
        Check.words("7 one is BARRED");
        Twins.Deed calls = both(withCalls("bar 9;"), chest -> Check.rules(chest, "sureties 3;"));
        refusedAtEachPlace(7, calls, 3, 1);
        refusedAtEachPlace(7, calls, 3, 2);
        refusedAtEachPlace(7, both(calls, chest -> chest.pay(1, 4)), 3, 1);
        Twins.Deed called = both(calls, chest -> Check.rules(chest, "sureties 3;bar 1;"));
        refusedAtEachPlace(7, called, 3, 0);
        LoanChest x = new LoanChest();
        calls.on(x);
        x.pay(1, 5);
        Check.same("all of the call was paid", Check.ask(x, 3, 5, 1, 0, 7), 1);
    }

    private static Twins.Deed standing(int howOften, int stands) {
        return chest -> {
            Check.people(chest, 14);
            chest.gift(0, 500);
            Check.rules(chest, "sureties 1;stands 9;");
            for (int p = 0; p < howOften; p++) {
                Check.ask(chest, p, 5, 13);
            }
            Check.rules(chest, "sureties 3;stands " + stands + ";");
        };
    }

    private static void standsForAsMany() {
        Check.words("8 one STANDS for as many as stands tells");
        for (int stands : new int[] {1, 2, 9}) {
            for (int place = 0; place < 3; place++) {
                int[] sureties = {10, 11, 12};
                sureties[place] = 13;
                LoanChest below = new LoanChest();
                standing(stands - 1, stands).on(below);
                Check.same("one less than " + stands, Check.ask(below, 9, 5, sureties), stands - 1);
                refused(8, standing(stands, stands), 9, 5, sureties);
            }
        }
        refused(8, standing(3, 2), 9, 5, 13, 10, 11);
        LoanChest x = new LoanChest();
        standing(2, 2).on(x);
        Check.same("two", Check.ask(x, 9, 5, 10, 11, 13), -9);
        x.pay(0, 5);
        Check.same("one is repaid", Check.ask(x, 9, 5, 10, 11, 13), 2);
        Check.same("two without a text", Check.ask(withStandsOfNoText(2), 9, 5, 10, 13), -9);
        Check.same("one without a text", Check.ask(withStandsOfNoText(1), 9, 5, 10, 13), 1);
    }

    private static LoanChest withStandsOfNoText(int howOften) {
        LoanChest made = new LoanChest();
        standing(howOften, 9).on(made);
        Check.rules(made, "");
        return made;
    }

    /** Each but the last one of so many in a row has a LOAN with the next one as SURETY. */
    private static Twins.Deed row(int people, int ring) {
        return chest -> {
            Check.people(chest, 12);
            chest.gift(0, 500);
            Check.rules(chest, "sureties 1;ring 0;");
            for (int p = 0; p + 1 < people; p++) {
                Check.ask(chest, p, 5, p + 1);
            }
            Check.rules(chest, "sureties 1;ring " + ring + ";");
        };
    }

    private static void ringNotAbove() {
        Check.words("9 there would be a RING with this LOAN of a length that is not above ring");
        for (int ring = 0; ring <= 9; ring++) {
            for (int length = 2; length <= 10; length++) {
                String what = "a ring of " + length + " with ring " + ring;
                LoanChest x = new LoanChest();
                row(length, ring).on(x);
                int due = length <= ring ? -10 : length - 1;
                Check.same(what, Check.ask(x, length - 1, 5, 0), due);
                Check.same(what + ": ring", x.ring(0), length <= ring ? -1 : length);
            }
        }
        refused(9, row(2, 2), 1, 5, 0);
        refused(9, row(6, 6), 5, 5, 0);
    }

    private static void ringNeedsThisLoan() {
        Check.words("there would be a RING with this LOAN");
        LoanChest x = new LoanChest();
        row(2, 0).on(x);
        Check.same("a ring of two", Check.ask(x, 1, 5, 0), 1);
        Check.rules(x, "sureties 1;ring 9;");
        Check.same("a ring that is there without it", Check.ask(x, 2, 5, 0), 2);
        Check.same("a row behind it", Check.ask(x, 3, 5, 2), 3);
        LoanChest y = new LoanChest();
        row(3, 9).on(y);
        y.pay(1, 5);
        Check.same("a row that was repaid in between", Check.ask(y, 2, 5, 0), 2);
        // Only the third SURETY leads back, and by the longer of two ways too.
        LoanChest z = new LoanChest();
        row(4, 3).on(z);
        Check.rules(z, "sureties 3;ring 3;");
        Check.same("a ring of four", Check.ask(z, 3, 5, 8, 9, 0), 3);
        LoanChest w = new LoanChest();
        row(4, 3).on(w);
        Check.rules(w, "sureties 3;ring 3;");
        Check.same("rings of four and of three", Check.ask(w, 3, 5, 0, 9, 1), -10);
    }

    private static void notSoMuch() {
        Check.words("10 there is not so much");
        refused(10, chest(2, 50, "sureties 0;"), 0, 51);
        refused(10, chest(2, 50, "sureties 0;keep 20;"), 0, 31);
        refused(10, chest(2, 50, "sureties 0;keep 99999;"), 0, 1);
        refused(10, both(chest(2, 50, "sureties 0;"), chest -> chest.fund(3, 1)), 0, 51);
        Check.same("all there is", Check.chest(2, 50, "sureties 0;").ask(0, 50), 0);
        // Some of it is in a FUND for a TAG, and nothing may have been taken from there either.
        Twins.Deed tagged = chest -> {
            chest.person(255);
            chest.gift(0, 10);
            chest.fund(1, 20);
            chest.fund(2, 5);
            Check.rules(chest, "sureties 0;keep 3;");
        };
        refused(10, tagged, 0, 33);
        LoanChest x = new LoanChest();
        tagged.on(x);
        Check.same("all there is", x.ask(0, 32), 0);
        Check.row("chest", new int[] {3, 0, 0}, f -> x.chest(f, 0));
    }

    /**
     * 0 had a LOAN that was CALLED, 1 and 2 have CALLS; 3 has an OPEN LOAN with 4 and 5 as SURETIES, who STAND for as
     * many as they may; 20 pence are left.
     */
    private static void allReasons(LoanChest chest) {
        Check.people(chest, 8);
        chest.gift(0, 40);
        Check.rules(chest, "sureties 2;stands 1;weeks 1;call 1;late 0;bar 1;most 30;ring 9;");
        Check.ask(chest, 0, 10, 1, 2);
        Check.weeks(chest, 2);
        Check.ask(chest, 3, 10, 4, 5);
    }

    private static void firstOfTheReasons() {
        Check.words("REFUSED, the first of");
        Twins.Deed before = AskEdgesTest::allReasons;
        refused(1, before, 8, 0, 255);
        refused(2, before, 3, 31, 3);
        refused(2, before, 1, 0, 1);
        refused(3, before, 3, 30, 3);
        refused(4, before, 1, 30, 1);
        refused(4, before, 0, 30);
        refused(5, before, 4, 30, 4);
        refused(5, before, 4, 30, 3, 3, 3);
        refused(6, before, 4, 30, 1, 4);
        refused(6, before, 4, 30, 1, 1);
        refused(6, before, 4, 30, 5, 99);
        refused(7, before, 4, 30, 5, 1);
        refused(7, before, 4, 30, 3, 0);
        refused(8, before, 4, 30, 3, 5);
        refused(9, before, 4, 30, 3, 6);
        refused(10, before, 4, 30, 6, 7);
        // One who has an OPEN LOAN and is BARRED, too: 3 is ahead of 4.
        Twins.Deed openAndBarred = both(chest(5, 100, "sureties 1;weeks 2;call 2;ring 0;"), chest -> {
            Check.ask(chest, 0, 10, 1);
            chest.next();
            Check.ask(chest, 1, 10, 2);
            Check.weeks(chest, 2);
        });
        refused(3, openAndBarred, 1, 5, 3);
        LoanChest y = new LoanChest();
        openAndBarred.on(y);
        Check.row("barred and with an open loan", new int[] {1, 1}, i -> y.about(1, 2 + i));
        LoanChest x = new LoanChest();
        before.on(x);
        Check.same("none of them", Check.ask(x, 4, 20, 6, 7), 2);
    }
}
