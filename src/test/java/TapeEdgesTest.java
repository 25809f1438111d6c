/** The edges that promises 1, 2 and 3 name for the tape. */
public final class TapeEdgesTest {
    private static final int LEAST = Integer.MIN_VALUE;
    private static final int MOST = Integer.MAX_VALUE;

    public static void main(String[] args) {
        emptyAtFirst();
        eachOfTwentyBytes();
        bytesUpTo255();
        howManyItHas();
        noneComeBeyond320();
        firstBytesAlone();
        notSoMany();
        below0();
        Check.finish();
    }

    private static LoanChest full() {
        LoanChest x = new LoanChest();
        Check.text(x, Twins.ON_THE_TAPE + " ".repeat(320 - Twins.ON_THE_TAPE.length()));
        return x;
    }

    private static void emptyAtFirst() {
        Check.words("an empty tape");
        LoanChest x = new LoanChest();
        Check.same("bytes", x.count(7), 0);
        Check.no("end(1)", x.end(1));
        Check.yes("end(0)", x.end(0));
        Check.same("rules()", new LoanChest().rules(), 0);
        LoanChest y = new LoanChest();
        y.person(0);
        y.gift(0, 1);
        Check.same("ask() has no sureties", y.ask(0, 1), -6);
    }

    private static void eachOfTwentyBytes() {
        Check.words("Twenty bytes come behind the tape, of each number the highest first");
        LoanChest x = new LoanChest();
        // "keep", " 123", "45;m", "ost ", "678;"
        Check.same("feed", x.feed(0x6b656570, 0x20313233, 0x34353b6d, 0x6f737420, 0x3637383b), 20);
        Check.same("rules()", x.rules(), 2);
        Check.same("keep", x.rule(6), 12345);
        Check.same("most", x.rule(0), 678);
        LoanChest y = new LoanChest();
        Check.people(y, 40);
        y.gift(0, 100);
        Check.rules(y, "sureties 3;stands 9;");
        y.feed(0, 0, 0, 0, 0);
        y.end(1);
        y.feed(0x27262524, 0, 0, 0, 0);
        y.end(3);
        Check.same("ask", y.ask(1, 1), 0);
        Check.row("surety", new int[] {0, 39, 38}, i -> y.surety(0, i));
    }

    private static void bytesUpTo255() {
        Check.words("The tape's bytes (0 to 255)");
        for (int one : new int[] {0, 39, 40, 127, 128, 129, 254, 255}) {
            for (int place = 0; place < 3; place++) {
                LoanChest x = Check.chest(40, 100, "sureties 3;");
                int[] sureties = {2, 3, 4};
                sureties[place] = one;
                Check.tape(x, sureties);
                Check.same("ask with " + one + " at " + place, x.ask(1, 1), one < 40 ? 0 : -7);
                if (one < 40) {
                    Check.row("surety", sureties, i -> x.surety(0, i));
                }
            }
        }
    }

    private static void howManyItHas() {
        Check.words("how many it has");
        LoanChest x = new LoanChest();
        for (int i = 1; i <= 16; i++) {
            Check.same("feed " + i, x.feed(i, i, i, i, i), 20 * i);
            Check.same("count(7)", x.count(7), 20 * i);
        }
        for (int n : new int[] {0, 1, 19, 20, 299, 300}) {
            LoanChest y = full();
            y.end(n);
            Check.same("feed behind " + n, y.feed(0, 0, 0, 0, 0), n + 20);
        }
    }

    private static void noneComeBeyond320() {
        Check.words("NONE, and none come, if it would have more than 320");
        for (int n = 301; n <= 320; n++) {
            LoanChest x = full();
            x.end(n);
            Check.same("feed behind " + n, x.feed(-1, -1, -1, -1, -1), -1);
            Check.same("bytes behind it", x.count(7), n);
            Check.no("end of one more", x.end(n + 1));
            Check.yes("end of what is told", x.end(Twins.ON_THE_TAPE.length()));
            Check.same("rules()", x.rules(), 3);
            Check.same("most", x.rule(0), 77);
            Check.same("bar", x.rule(8), 7);
        }
        LoanChest x = full();
        x.end(0);
        Check.same("feed behind 0, once full", x.feed(0, 0, 0, 0, 0), 20);
        Twins.same("feed behind 301", -1, chest -> {
            Twins.busy(chest);
            Check.text(chest, Twins.ON_THE_TAPE + " ".repeat(301 - Twins.ON_THE_TAPE.length()));
        }, chest -> chest.feed(1, 2, 3, 4, 5));
    }

    private static void firstBytesAlone() {
        Check.words("The tape has its first n bytes alone: true");
        String text = "bar 1;late 2;call 3;";
        int[] ends = {0, 6, 13, 20};
        for (int told = 0; told < ends.length; told++) {
            LoanChest x = new LoanChest();
            Check.text(x, text);
            Check.yes("end(" + ends[told] + ")", x.end(ends[told]));
            Check.same("bytes", x.count(7), ends[told]);
            Check.same("rules()", x.rules(), told);
            Check.same("bar", x.rule(8), told > 0 ? 1 : 3);
            Check.same("late", x.rule(4), told > 1 ? 2 : 1);
            Check.same("call", x.rule(5), told > 2 ? 3 : 4);
        }
        LoanChest x = full();
        Check.yes("end(320)", x.end(320));
        Check.yes("end(319)", x.end(319));
        Check.same("bytes", x.count(7), 319);
    }

    private static void notSoMany() {
        Check.words("false, if it has not so many");
        LoanChest x = full();
        Check.no("end(321)", x.end(321));
        Check.yes("end(20)", x.end(20));
        Check.no("end(21), though more came once", x.end(21));
        Check.yes("end(0)", x.end(0));
        Check.no("end(1)", x.end(1));
        int length = Twins.ON_THE_TAPE.length();
        for (int n : new int[] {length + 1, 320, 321, MOST}) {
            Twins.same("end(" + n + ")", 0, chest -> chest.end(n) ? 1 : 0);
        }
    }

    private static void below0() {
        Check.words("or n is below 0");
        for (int n : new int[] {-1, -20, LEAST}) {
            Twins.same("end(" + n + ")", 0, chest -> chest.end(n) ? 1 : 0);
        }
        Check.no("end(-1) of an empty tape", new LoanChest().end(-1));
    }
}
