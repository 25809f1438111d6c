/** The edges that promises 7, 8, 9 and 10 name, and the Terms' words on PEOPLE, TAGS and FUNDS. */
public final class PeopleAndFundsEdgesTest {
    private static final int LOWEST = Integer.MIN_VALUE;
    private static final int HIGHEST = Integer.MAX_VALUE;

    public static void main(String[] args) {
        nobodyAtFirst();
        peopleTo39();
        tagsOfAPerson();
        bits0To7();
        otherThanItWas();
        noSuchOneOrTag();
        fundsTo5();
        fundNumbersAsTold();
        fundZeroAtFirst();
        fundsForThoseAlone();
        giftToSuchAFund();
        giftsAsTold();
        fundOfAMillion();
        Check.finish();
    }

    private static void nobodyAtFirst() {
        Check.words("No PEOPLE, LOANS; FUND 0 empty, RULES as without a text, WEEK 0; an empty tape.");
        LoanChest x = new LoanChest();
        Check.row("count", new int[] {0, 0, 1, 0, 0, 0, 0, 0}, x::count);
        Check.row("rule", new int[] {100, 20, 2, 2, 1, 4, 0, 2, 3}, x::rule);
        Check.same("chest(0, 0)", x.chest(0, 0), 0);
        Check.same("chest(1, 0)", x.chest(1, 0), -1);
        Check.same("owes(0)", x.owes(0), -1);
        Check.refuses("about(0, 0)", () -> x.about(0, 0));
        Check.refuses("loan(0, 0)", () -> x.loan(0, 0));
        Check.same("next()", x.next(), 1);
    }

    private static void fortyPeople(LoanChest chest) {
        for (int p = 0; p < 40; p++) {
            chest.person(p);
        }
    }

    private static void peopleTo39() {
        Check.words("One more of PEOPLE, with TAGS: the number; NONE: there are 40");
        LoanChest x = new LoanChest();
        for (int p = 0; p < 40; p++) {
            Check.same("owes ahead of it", x.owes(p), -1);
            Check.same("person " + p, x.person(255 - p), p);
            Check.same("people", x.count(1), p + 1);
            Check.same("tags", x.about(p, 0), 255 - p);
            Check.same("owes", x.owes(p), 0);
        }
        Check.same("one more", x.person(0), -1);
        Check.same("one more again", x.person(255), -1);
        Check.same("people", x.count(1), 40);
        Check.same("tags of the last one", x.about(39, 0), 216);
        Check.refuses("about(40, 0)", () -> x.about(40, 0));
        Twins.same("person 40", -1, PeopleAndFundsEdgesTest::fortyPeople, chest -> chest.person(255));
    }

    private static void tagsOfAPerson() {
        Check.words("or tags are not 0 to 255");
        LoanChest x = new LoanChest();
        Check.same("person(0)", x.person(0), 0);
        Check.same("person(255)", x.person(255), 1);
        Check.row("tags", new int[] {0, 255}, p -> x.about(p, 0));
        for (int tags : new int[] {-1, 256, 257, -256, LOWEST, HIGHEST}) {
            Twins.same("person(" + tags + ")", -1, chest -> chest.person(tags));
            Check.same("person(" + tags + ") as the first one", new LoanChest().person(tags), -1);
        }
        x.person(256);
        Check.same("a refused one takes no number", x.person(1), 2);
    }

    private static void bits0To7() {
        Check.words("PEOPLE 0 .. 39 have TAGS, bits 0 to 7");
        for (int t = 0; t < 8; t++) {
            LoanChest x = new LoanChest();
            x.person(0);
            x.person(255);
            Check.yes("on " + t, x.tag(0, t, true));
            Check.yes("off " + t, x.tag(1, t, false));
            Check.same("on", x.about(0, 0), 1 << t);
            Check.same("off", x.about(1, 0), 255 - (1 << t));
        }
    }

    private static void otherThanItWas() {
        Check.words("One has TAG t (on), or not: true, if that is other than it was");
        for (int t = 0; t < 8; t++) {
            int tag = t;
            // In busy() 0 has no TAG, 4 has all.
            Twins.same("on for one who has it", 0, chest -> chest.tag(4, tag, true) ? 1 : 0);
            Twins.same("off for one who has it not", 0, chest -> chest.tag(0, tag, false) ? 1 : 0);
            LoanChest x = new LoanChest();
            x.person(0);
            Check.yes("on", x.tag(0, t, true));
            Check.no("on again", x.tag(0, t, true));
            Check.same("tags", x.about(0, 0), 1 << t);
            Check.yes("off", x.tag(0, t, false));
            Check.no("off again", x.tag(0, t, false));
            Check.same("tags", x.about(0, 0), 0);
        }
    }

    private static void noSuchOneOrTag() {
        Check.words("false also without such a one, or a TAG that is not 0 to 7");
        for (int person : new int[] {-1, 6, 39, 40, 64, LOWEST, HIGHEST}) {
            Twins.same("tag of " + person + " on", 0, chest -> chest.tag(person, 0, true) ? 1 : 0);
            Twins.same("tag of " + person + " off", 0, chest -> chest.tag(person, 0, false) ? 1 : 0);
        }
        for (int t : new int[] {-1, 8, 31, 32, 33, 39, -32, 64, LOWEST, HIGHEST}) {
            for (int person : new int[] {0, 4}) {
                Twins.same("tag " + t + " on", 0, chest -> chest.tag(person, t, true) ? 1 : 0);
                Twins.same("tag " + t + " off", 0, chest -> chest.tag(person, t, false) ? 1 : 0);
            }
        }
        LoanChest x = new LoanChest();
        fortyPeople(x);
        Check.yes("tag of the last one", x.tag(39, 7, true));
        Check.same("tags", x.about(39, 0), 39 + 128);
        Check.no("tag of 40", x.tag(40, 7, true));
    }

    private static void sixFunds(LoanChest chest) {
        Check.people(chest, 2);
        chest.gift(0, 9);
        for (int f = 1; f < 6; f++) {
            chest.fund(f, f * 10);
        }
    }

    private static void fundsTo5() {
        Check.words("A new FUND for a TAG, with so many pence (0 to 100000): its number; NONE: there are 6");
        LoanChest x = new LoanChest();
        for (int f = 1; f < 6; f++) {
            Check.same("gift ahead of it", x.gift(f, 1), -1);
            Check.same("fund " + f, x.fund(0, f), f);
            Check.same("funds", x.count(2), f + 1);
            Check.same("chest", x.chest(f, 0), f);
        }
        Check.same("one more", x.fund(0, 6), -1);
        Check.same("funds", x.count(2), 6);
        Check.same("given", x.count(6), 15);
        Check.same("chest(6, 0)", x.chest(6, 0), -1);
        Twins.same("fund 6", -1, PeopleAndFundsEdgesTest::sixFunds, chest -> chest.fund(0, 100));
        Twins.same("gift to fund 6", -1, PeopleAndFundsEdgesTest::sixFunds, chest -> chest.gift(6, 100));
    }

    private static void fundNumbersAsTold() {
        Check.words("or a number is not as told");
        LoanChest x = new LoanChest();
        Check.same("tag 0, pence 0", x.fund(0, 0), 1);
        Check.same("tag 7, pence 100000", x.fund(7, 100000), 2);
        Check.row("chest", new int[] {0, 0, 100000}, f -> x.chest(f, 0));
        Check.same("given", x.count(6), 100000);
        for (int t : new int[] {-1, 8, 32, LOWEST, HIGHEST}) {
            Twins.same("fund(" + t + ", 5)", -1, chest -> chest.fund(t, 5));
        }
        for (int pence : new int[] {-1, 100001, LOWEST, HIGHEST}) {
            Twins.same("fund(0, " + pence + ")", -1, chest -> chest.fund(0, pence));
        }
    }

    private static void fundZeroAtFirst() {
        Check.words("FUND 0 is for all (there at first, empty)");
        LoanChest x = new LoanChest();
        Check.same("funds", x.count(2), 1);
        Check.same("chest(0, 0)", x.chest(0, 0), 0);
        x.person(0);
        x.person(255);
        Check.rules(x, "sureties 0;");
        Check.same("nothing is there", x.ask(0, 1), -11);
        x.gift(0, 2);
        Check.same("for one without tags", x.ask(0, 1), 0);
        Check.same("for one with all of them", x.ask(1, 1), 1);
        Check.same("chest(0, 0)", x.chest(0, 0), 0);
    }

    private static void fundsForThoseAlone() {
        Check.words("others for those alone who have their TAG");
        for (int t = 0; t < 8; t++) {
            LoanChest x = new LoanChest();
            x.person(255 - (1 << t));
            x.person(1 << t);
            x.fund(t, 1);
            Check.rules(x, "sureties 0;");
            Check.same("for one with all other tags", x.ask(0, 1), -11);
            Check.same("for one with that tag", x.ask(1, 1), 0);
            Check.same("taken", x.taken(0, 1), 1);
        }
    }

    private static void giftToSuchAFund() {
        Check.words("NONE: no such FUND");
        for (int f : new int[] {-1, 3, 5, 6, LOWEST, HIGHEST}) {
            Twins.same("gift(" + f + ", 5)", -1, chest -> chest.gift(f, 5));
        }
        LoanChest x = new LoanChest();
        sixFunds(x);
        Check.row("gift", new int[] {10, 11, 21, 31, 41, 51, -1}, f -> x.gift(f, 1));
        Check.same("given", x.count(6), 165);
    }

    private static void giftsAsTold() {
        Check.words("A gift to FUND f (1 to 100000 pence): what it has now; NONE: .. another number");
        LoanChest x = new LoanChest();
        Check.same("1", x.gift(0, 1), 1);
        Check.same("100000", x.gift(0, 100000), 100001);
        Check.same("given", x.count(6), 100001);
        for (int pence : new int[] {0, -1, 100001, LOWEST, HIGHEST}) {
            for (int f = 0; f < 3; f++) {
                int to = f;
                Twins.same("gift(" + f + ", " + pence + ")", -1, chest -> chest.gift(to, pence));
            }
        }
    }

    private static void nearlyAMillion(LoanChest chest) {
        chest.person(0);
        Check.rules(chest, "sureties 0;");
        chest.fund(0, 99999);
        for (int i = 0; i < 10; i++) {
            chest.gift(0, i == 0 ? 99999 : 100000);
            chest.gift(1, i == 0 ? 1 : 100000);
        }
    }

    private static void fundOfAMillion() {
        Check.words("or it would have more than 1000000");
        LoanChest x = new LoanChest();
        nearlyAMillion(x);
        Check.same("fund 0", x.chest(0, 0), 999999);
        Check.same("two more for fund 0", x.gift(0, 2), -1);
        Check.same("one more for fund 0", x.gift(0, 1), 1000000);
        Check.same("and one more", x.gift(0, 1), -1);
        Check.same("fund 1", x.chest(1, 0), 1000000);
        Check.same("one more for fund 1", x.gift(1, 1), -1);
        Check.same("100000 more for fund 1", x.gift(1, 100000), -1);
        Check.same("given", x.count(6), 2000000);
        Twins.same("two more for fund 0", -1, PeopleAndFundsEdgesTest::nearlyAMillion, chest -> chest.gift(0, 2));
        Twins.same("one more for fund 1", -1, PeopleAndFundsEdgesTest::nearlyAMillion, chest -> chest.gift(1, 1));
        LoanChest y = new LoanChest();
        nearlyAMillion(y);
        y.ask(0, 100);
        Check.same("room while it is lent", y.gift(0, 100), 999999);
        Check.yes("what comes back is no gift", y.pay(0, 100));
        Check.same("more than a million", y.chest(0, 0), 1000099);
        Check.same("no gift more", y.gift(0, 1), -1);
        Check.rules(y, "sureties 0;weeks 1;late 99;call 20;");
        y.ask(0, 50);
        Check.weeks(y, 3);
        Check.yes("nor are fines", y.pay(0, 248));
        Check.same("more than a million", y.chest(0, 3), 1000297);
    }
}
