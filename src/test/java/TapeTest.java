/** Promises 2 and 3. */
public final class TapeTest {
    public static void main(String[] args) {
        fills();
        cuts();
        bytesComeHighestFirst();
        Check.finish();
    }

    private static void fills() {
        LoanChest x = new LoanChest();
        for (int i = 1; i <= 16; i++) {
            Check.same("feed " + i, x.feed(0, 0, 0, 0, 0), 20 * i);
        }
        Check.same("feed beyond 320", x.feed(0, 0, 0, 0, 0), -1);
        Check.same("bytes", x.count(7), 320);
        Check.yes("end(301)", x.end(301));
        Check.same("feed to 321", x.feed(0, 0, 0, 0, 0), -1);
        Check.same("bytes", x.count(7), 301);
        Check.yes("end(300)", x.end(300));
        Check.same("feed to 320", x.feed(0, 0, 0, 0, 0), 320);
    }

    private static void cuts() {
        LoanChest x = new LoanChest();
        x.feed(0, 0, 0, 0, 0);
        Check.no("end(21)", x.end(21));
        Check.no("end(-1)", x.end(-1));
        Check.no("end(lowest)", x.end(Integer.MIN_VALUE));
        Check.no("end(highest)", x.end(Integer.MAX_VALUE));
        Check.same("bytes", x.count(7), 20);
        Check.yes("end(20)", x.end(20));
        Check.yes("end(7)", x.end(7));
        Check.no("end(8)", x.end(8));
        Check.same("feed behind 7", x.feed(0, 0, 0, 0, 0), 27);
        Check.yes("end(0)", x.end(0));
        Check.yes("end(0) again", x.end(0));
        Check.same("bytes", x.count(7), 0);
    }

    private static void bytesComeHighestFirst() {
        LoanChest x = new LoanChest();
        Check.people(x, 40);
        x.gift(0, 1000);
        Check.rules(x, "sureties 3;stands 9;");
        x.feed(0x01020304, 0x05060708, 0x090a0b0c, 0x0d0e0f10, 0x11121314);
        x.end(3);
        Check.same("ask", x.ask(0, 1), 0);
        Check.row("surety", new int[] {1, 2, 3}, i -> x.surety(0, i));
        // A byte above 127 is a number above 127, not one below 0.
        Check.same("ask with 255", Check.ask(x, 1, 1, 2, 3, 255), -7);
        Check.same("ask with 128", Check.ask(x, 1, 1, 2, 3, 128), -7);
        String text = "bar 1;call 2;late 3;";
        Check.text(x, text);
        Check.same("rules", x.rules(), 3);
        Check.same("bar", x.rule(8), 1);
        Check.same("late", x.rule(4), 3);
    }
}
