/** Promises 4, 5 and 6. */
public final class RulesTest {
    private static final String[] WORDS =
        {"most", "weeks", "sureties", "stands", "late", "call", "keep", "ring", "bar"};
    private static final int[] LEAST = {1, 1, 0, 1, 0, 1, 0, 0, 1};
    private static final int[] MOST = {9999, 60, 3, 9, 99, 20, 99999, 9, 9};
    private static final int[] USUAL = {100, 20, 2, 2, 1, 4, 0, 2, 3};

    public static void main(String[] args) {
        edgesOfEachRule();
        textsWithoutFault();
        noToken();
        whatCannotCome();
        numbersNotAsTold();
        toldTwice();
        firstFault();
        longTexts();
        faultLeavesRules();
        lastingUse();
        Check.finish();
    }

    private static void told(String text, int howMany) {
        LoanChest x = new LoanChest();
        Check.same("rules of '" + text + "'", Check.rules(x, text), howMany);
        Check.same("fault of '" + text + "'", x.fault(), 0);
        Check.same("tape behind '" + text + "'", x.count(7), 0);
    }

    private static void faulty(String text, int kind, int place) {
        LoanChest x = new LoanChest();
        Check.same("rules of '" + text + "'", Check.rules(x, text), -1 - place);
        Check.same("fault of '" + text + "'", x.fault(), kind);
        Check.same("tape behind '" + text + "'", x.count(7), 0);
        Check.row("rule behind '" + text + "'", USUAL, x::rule);
    }

    private static void edgesOfEachRule() {
        for (int k = 0; k < WORDS.length; k++) {
            for (int value : new int[] {LEAST[k], MOST[k]}) {
                LoanChest x = new LoanChest();
                Check.same(WORDS[k] + " " + value, Check.rules(x, WORDS[k] + " " + value + ";"), 1);
                int[] due = USUAL.clone();
                due[k] = value;
                Check.row("rule", due, x::rule);
            }
            int place = WORDS[k].length() + 1;
            if (LEAST[k] > 0) {
                faulty(WORDS[k] + " " + (LEAST[k] - 1) + ";", 2, place);
            }
            faulty(WORDS[k] + " " + (MOST[k] + 1) + ";", MOST[k] == 99999 ? 1 : 2, place);
        }
        LoanChest x = new LoanChest();
        Check.same("rule(9)", x.rule(9), -1);
        Check.same("rule(-1)", x.rule(-1), -1);
        Check.same("rule(lowest)", x.rule(Integer.MIN_VALUE), -1);
        Check.same("rule(highest)", x.rule(Integer.MAX_VALUE), -1);
    }

    private static void textsWithoutFault() {
        told("", 0);
        told(" \n ", 0);
        told("most 5;", 1);
        told("\n most\n\n5 ; bar 1;\n", 2);
        told("most 00005;", 1);
        told("most 5;weeks 5;sureties 1;stands 5;late 5;call 5;keep 5;ring 5;bar 5;", 9);
        LoanChest x = new LoanChest();
        Check.rules(x, "keep 00070;");
        Check.same("keep", x.rule(6), 70);
    }

    private static void noToken() {
        faulty("most5;", 1, 0);
        faulty("5most;", 1, 0);
        faulty("most 5x;", 1, 5);
        faulty("most 5a;", 1, 5);
        faulty("most 5z;", 1, 5);
        faulty("most 000005;", 1, 5);
        faulty("Most 5;", 1, 0);
        faulty("mosT 5;", 1, 0);
        faulty("mostT 5;", 1, 4);
        faulty("most -5;", 1, 5);
        faulty("most\t5;", 1, 4);
        faulty("most 5;\r", 1, 7);
        faulty("most 5;\0", 1, 7);
        faulty("most 5,", 1, 6);
        faulty("most 5;\u00ff", 1, 7);
        faulty("most 5:", 1, 6);
        faulty("most 5`;", 1, 6);
        faulty("most 5{;", 1, 6);
        faulty("most /5;", 1, 5);
    }

    private static void whatCannotCome() {
        faulty(";", 1, 0);
        faulty("5", 1, 0);
        faulty("many 5;", 1, 0);
        faulty("mos 5;", 1, 0);
        for (String word : WORDS) {
            faulty("x" + word.substring(1) + " 2;", 1, 0);
            faulty(word.substring(0, word.length() - 1) + "x 2;", 1, 0);
        }
        faulty("mostly 5;", 1, 0);
        faulty("most most 5;", 1, 5);
        faulty("most;", 1, 4);
        faulty("most 5 5;", 1, 7);
        faulty("most 5 bar", 1, 7);
        faulty("most 5;;", 1, 7);
        faulty("most", 1, 4);
        faulty("most  ", 1, 6);
        faulty("most 5", 1, 6);
        faulty("most 5 \n", 1, 8);
        faulty("bar 1;most 5", 1, 12);
    }

    private static void numbersNotAsTold() {
        faulty("most 0;", 2, 5);
        faulty("most 10000;", 2, 5);
        faulty("most 99999", 2, 5);
        faulty("bar 5; weeks 61;", 2, 13);
    }

    private static void toldTwice() {
        faulty("most 5;most 5;", 3, 7);
        faulty("most 5;bar 1; most 6;", 3, 14);
        faulty("late 5;late", 3, 7);
        faulty("late 5;late 500;", 3, 7);
    }

    private static void firstFault() {
        // Of one TOKEN the least: it can't come, whatever else is wrong with it.
        faulty("most 5 0;", 1, 7);
        faulty("most 5;bar most 5;", 1, 11);
        // Along the text the first one, whatever its kind.
        faulty("most 0;;", 2, 5);
        faulty("most 5;most;", 3, 7);
        faulty("most 5;ring 10;most 5;", 2, 12);
    }

    private static String blanks(int howMany) {
        return " ".repeat(howMany);
    }

    private static void longTexts() {
        told("bar 8;" + blanks(294), 1);
        told(blanks(294) + "bar 8;", 1);
        faulty("bar 8;" + blanks(295), 1, 300);
        faulty(blanks(295) + "bar 8;", 1, 300);
        faulty(blanks(320), 1, 300);
        faulty(blanks(300) + "bar 8;", 1, 300);
        faulty(blanks(300) + "?", 1, 300);
        faulty(blanks(299) + "?" + blanks(20), 1, 299);
        faulty(blanks(299) + ";" + blanks(20), 1, 299);
        faulty(blanks(296) + "bar", 1, 299);
        faulty(blanks(297) + "bar", 1, 300);
        // TOKENS that begin ahead of 300 are read whole.
        faulty(blanks(298) + "bar 9;", 1, 300);
        faulty(blanks(298) + "bax 9;", 1, 298);
        faulty(blanks(298) + "bar5 9;", 1, 298);
        faulty(blanks(294) + "most 99999999;", 1, 299);
        faulty(blanks(294) + "most 10000;", 2, 299);
        faulty(blanks(294) + "most 09999;", 1, 300);
        faulty("bar 1;" + blanks(292) + "bar 2;", 3, 298);
        faulty("bar 1;" + blanks(294) + "bar 2;", 1, 300);
        faulty("most" + blanks(300), 1, 300);
        faulty("most" + blanks(296), 1, 300);
        faulty("most 0" + blanks(300), 2, 5);
    }

    private static void faultLeavesRules() {
        LoanChest x = new LoanChest();
        Check.rules(x, "most 7;bar 1;");
        Check.same("a fault behind good rules", Check.rules(x, "most 8;weeks 5;bar 10;"), -20);
        int[] due = USUAL.clone();
        due[0] = 7;
        due[8] = 1;
        Check.row("rule", due, x::rule);
        Check.same("fault", x.fault(), 2);
    }

    private static void lastingUse() {
        LoanChest x = new LoanChest();
        Check.rules(x, "most 7;");
        Check.same("one again in a new text", Check.rules(x, "most 8;"), 1);
        Check.same("most", x.rule(0), 8);
        Check.same("others", Check.rules(x, "bar 1;"), 1);
        Check.same("most without it", x.rule(0), 100);
        Check.same("a fault", Check.rules(x, "bar 1;bar 2;"), -7);
        Check.same("fault", x.fault(), 3);
        x.feed(0, 0, 0, 0, 0);
        Check.same("fault stays", x.fault(), 3);
        x.end(0);
        Check.same("none told", x.rules(), 0);
        Check.same("fault gone", x.fault(), 0);
        Check.row("rule", USUAL, x::rule);
    }
}
