/** Promises 7, 8, 9 and 10, and promise 15 for the FUNDS of one WEEK. */
public final class PeopleAndFundsTest {
    public static void main(String[] args) {
        people();
        tags();
        funds();
        gifts();
        Check.finish();
    }

    private static void people() {
        LoanChest x = new LoanChest();
        Check.same("person(-1)", x.person(-1), -1);
        Check.same("person(256)", x.person(256), -1);
        Check.same("people", x.count(1), 0);
        for (int i = 0; i < 40; i++) {
            Check.same("person " + i, x.person(i == 39 ? 255 : i), i);
        }
        Check.same("person 40", x.person(0), -1);
        Check.same("people", x.count(1), 40);
        Check.same("tags of 7", x.about(7, 0), 7);
        Check.same("tags of 39", x.about(39, 0), 255);
    }

    private static void tags() {
        LoanChest x = new LoanChest();
        x.person(0b10000001);
        x.person(0);
        Check.no("has it", x.tag(0, 7, true));
        Check.yes("has it not", x.tag(0, 7, false));
        Check.no("has it not already", x.tag(0, 7, false));
        Check.same("tags", x.about(0, 0), 1);
        Check.yes("another", x.tag(0, 3, true));
        Check.same("tags", x.about(0, 0), 9);
        Check.same("tags of the other", x.about(1, 0), 0);
        Check.no("tag 8", x.tag(0, 8, true));
        Check.no("tag -1", x.tag(0, -1, true));
        Check.no("tag 32", x.tag(1, 32, true));
        Check.no("no such one", x.tag(2, 0, true));
        Check.no("person -1", x.tag(-1, 0, true));
        Check.same("tags", x.about(0, 0), 9);
        Check.same("tags of the other", x.about(1, 0), 0);
    }

    private static void funds() {
        LoanChest x = new LoanChest();
        Check.same("tag -1", x.fund(-1, 5), -1);
        Check.same("tag 8", x.fund(8, 5), -1);
        Check.same("pence -1", x.fund(0, -1), -1);
        Check.same("pence 100001", x.fund(0, 100001), -1);
        Check.same("funds", x.count(2), 1);
        Check.same("fund 1", x.fund(0, 0), 1);
        Check.same("fund 2", x.fund(7, 100000), 2);
        Check.same("fund 3 of a tag that has one", x.fund(7, 1), 3);
        Check.same("fund 4", x.fund(1, 1), 4);
        Check.same("fund 5", x.fund(1, 1), 5);
        Check.same("fund 6", x.fund(1, 1), -1);
        Check.same("funds", x.count(2), 6);
        Check.same("given", x.count(6), 100003);
        Check.row("chest", new int[] {0, 0, 100000, 1, 1, 1, -1}, f -> x.chest(f, 0));
        Check.same("chest(-1, 0)", x.chest(-1, 0), -1);
    }

    private static void gifts() {
        LoanChest x = new LoanChest();
        Check.same("no such fund", x.gift(1, 5), -1);
        Check.same("fund -1", x.gift(-1, 5), -1);
        Check.same("pence 0", x.gift(0, 0), -1);
        Check.same("pence 100001", x.gift(0, 100001), -1);
        Check.same("pence lowest", x.gift(0, Integer.MIN_VALUE), -1);
        Check.same("pence highest", x.gift(0, Integer.MAX_VALUE), -1);
        Check.same("given", x.count(6), 0);
        x.fund(3, 40);
        Check.same("1 to fund 0", x.gift(0, 1), 1);
        Check.same("2 to fund 1", x.gift(1, 2), 42);
        Check.same("given", x.count(6), 43);
        for (int i = 1; i < 10; i++) {
            x.gift(0, 100000);
        }
        Check.same("to 1000001", x.gift(0, 100000), -1);
        Check.same("to 1000000", x.gift(0, 99999), 1000000);
        Check.same("1 more", x.gift(0, 1), -1);
        Check.same("given", x.count(6), 1000042);
        Check.same("chest", x.chest(0, 0), 1000000);
    }
}
