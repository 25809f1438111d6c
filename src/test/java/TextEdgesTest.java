/** The edges of the RULES' text and its FAULTS, and those that promises 4, 5 and 6 name. */
public final class TextEdgesTest {
    private static final String[] WORDS =
        {"most", "weeks", "sureties", "stands", "late", "call", "keep", "ring", "bar"};
    private static final int[] LEAST = {1, 1, 0, 1, 0, 1, 0, 0, 1};
    private static final int[] HIGHEST = {9999, 60, 3, 9, 99, 20, 99999, 9, 9};
    private static final int[] USUAL = {100, 20, 2, 2, 1, 4, 0, 2, 3};

    public static void main(String[] args) {
        atMost300Bytes();
        wordsOfSmallLetters();
        oneToFiveDigits();
        blanks();
        goesOnAsLongAs();
        anyNumberOfRules();
        wordNumberSemicolon();
        rangeOfEach();
        firstAlongTheText();
        leastOfOneToken();
        cannotCome();
        theEnd();
        moreThan300();
        readWhole();
        numberNotAsTold();
        eachOnceAtMost();
        toldTwice();
        emptyThen();
        fromNowOn();
        theyStay();
        kindOfTheLatest();
        ruleByNumber();
        Check.finish();
    }

    private static void told(String text, int howMany) {
        LoanChest x = new LoanChest();
        Check.same("rules() of '" + text + "'", Check.rules(x, text), howMany);
        Check.same("fault() of '" + text + "'", x.fault(), 0);
    }

    private static void faulty(String text, int kind, int place) {
        LoanChest x = new LoanChest();
        Check.same("rules() of '" + text + "'", Check.rules(x, text), -1 - place);
        Check.same("fault() of '" + text + "'", x.fault(), kind);
        Check.row("rule behind '" + text + "'", USUAL, x::rule);
    }

    private static String filled(int howMany) {
        return " ".repeat(howMany);
    }

    private static void atMost300Bytes() {
        Check.words("RULES are a text of at most 300 bytes");
        told(filled(294) + "bar 8;", 1);
        told("bar 8;" + filled(294), 1);
        told(filled(300), 0);
        told("bar 8;" + filled(293), 1);
        faulty(filled(301), 1, 300);
        faulty("bar 8;" + filled(295), 1, 300);
    }

    private static void wordsOfSmallLetters() {
        Check.words("WORDS (small letters)");
        // A letter makes the WORD longer, and it is at 0; another sign is a TOKEN of its own, at 4.
        faulty("mosta 5;", 1, 0);
        faulty("mostz 5;", 1, 0);
        faulty("most` 5;", 1, 4);
        faulty("most{ 5;", 1, 4);
        faulty("mostA 5;", 1, 4);
        faulty("mostZ 5;", 1, 4);
        faulty("MOST 5;", 1, 0);
        faulty("Most 5;", 1, 0);
        faulty("most" + (char) 225 + " 5;", 1, 4);
    }

    private static void oneToFiveDigits() {
        Check.words("NUMBERS (1 to 5 digits)");
        told("keep 0;", 1);
        told("keep 9;", 1);
        told("keep 00000;", 1);
        told("keep 90909;", 1);
        told("most 00001;", 1);
        faulty("keep 000000;", 1, 5);
        faulty("keep 000001;", 1, 5);
        faulty("keep 999999;", 1, 5);
        faulty("keep 4294967297;", 1, 5);
        faulty("keep ;", 1, 5);
        faulty("keep 5/;", 1, 6);
        faulty("keep 5:;", 1, 6);
        faulty("keep /5;", 1, 5);
        faulty("keep :5;", 1, 5);
        LoanChest x = new LoanChest();
        Check.rules(x, "keep 00700;");
        Check.same("keep", x.rule(6), 700);
    }

    private static void blanks() {
        Check.words("; with blanks (32, 10) between or not");
        told("most 5;bar 1;", 2);
        told("most\n5;bar\n1;", 2);
        told(" most  5 ; bar  1 ; ", 2);
        told("\n\nmost \n5\n;\nbar 1;\n", 2);
        for (int sign : new int[] {0, 9, 11, 12, 13, 31, 33, 42, 160, 138, 255}) {
            String other = "" + (char) sign;
            faulty(other + "most 5;", 1, 0);
            faulty("most" + other + "5;", 1, 4);
            faulty("most 5" + other + ";", 1, 6);
            faulty("most 5;" + other, 1, 7);
        }
    }

    private static void goesOnAsLongAs() {
        Check.words("a WORD, NUMBER goes on as long as small letters and digits do; where it is not as told then it is "
            + "no TOKEN");
        faulty("most5;", 1, 0);
        faulty("most 5bar 1;", 1, 5);
        faulty("5most 5;", 1, 0);
        faulty("most 5x;", 1, 5);
        faulty("most x5;", 1, 5);
        faulty("most 12345a;", 1, 5);
        told("most 5;bar 1;", 2);
    }

    private static void anyNumberOfRules() {
        Check.words("TEXT: { RULE }");
        told("", 0);
        told(" ", 0);
        told("\n", 0);
        StringBuilder all = new StringBuilder();
        for (int k = 0; k < 9; k++) {
            all.append(WORDS[8 - k]).append(" 2;");
            told(all.toString(), k + 1);
        }
        LoanChest x = new LoanChest();
        Check.rules(x, all.toString());
        Check.row("rule", new int[] {2, 2, 2, 2, 2, 2, 2, 2, 2}, x::rule);
        // Behind the ninth one there is nothing but the end that can come.
        faulty(all + "most 2;", 3, all.length());
        faulty(all + ";", 1, all.length());
        told(all + " ", 9);
    }

    private static void wordNumberSemicolon() {
        Check.words("RULE: one of these WORDS, a NUMBER, ;");
        for (String word : WORDS) {
            told(word + " 2;", 1);
            faulty(word, 1, word.length());
            faulty(word + ";", 1, word.length());
            faulty(word + " 2", 1, word.length() + 2);
            faulty("2 " + word + ";", 1, 0);
            faulty("; " + word + " 2", 1, 0);
            faulty(word + " 2;;", 1, word.length() + 3);
        }
    }

    private static void rangeOfEach() {
        Check.words("most (1 to 9999; 100 without it), weeks (1 to 60; 20), sureties (0 to 3; 2), stands (1 to 9; 2), "
            + "late (0 to 99; 1), call (1 to 20; 4), keep (0 to 99999; 0), ring (0 to 9; 2), bar (1 to 9; 3)");
        for (int k = 0; k < 9; k++) {
            for (int value : new int[] {LEAST[k], LEAST[k] + 1, HIGHEST[k] - 1, HIGHEST[k]}) {
                LoanChest x = new LoanChest();
                Check.same(WORDS[k] + " " + value, Check.rules(x, WORDS[k] + " " + value + ";"), 1);
                int[] due = USUAL.clone();
                due[k] = value;
                Check.row("rule behind " + WORDS[k] + " " + value, due, x::rule);
            }
            int place = WORDS[k].length() + 1;
            if (LEAST[k] > 0) {
                faulty(WORDS[k] + " " + (LEAST[k] - 1) + ";", 2, place);
            }
            if (HIGHEST[k] < 99999) {
                faulty(WORDS[k] + " " + (HIGHEST[k] + 1) + ";", 2, place);
                faulty(WORDS[k] + " 99999;", 2, place);
            }
        }
    }

    private static void firstAlongTheText() {
        Check.words("FAULTS, the first along the text");
        faulty("? most 0; bar 1; bar 2;", 1, 0);
        faulty("most 0; ? bar 1; bar 2;", 2, 5);
        faulty("bar 1; bar 2; most 0; ?", 3, 7);
        faulty("bar 1; bar 0; most 0; ?", 3, 7);
        faulty("bar 1; most 0; bar 2;", 2, 12);
        faulty("bar 1; most 0", 2, 12);
        faulty("bar 1; bar", 3, 7);
    }

    private static void leastOfOneToken() {
        Check.words("of one TOKEN the least");
        // 1 and 2: a NUMBER where none can come, or of six digits, that is not as told either.
        faulty("most 5 0;", 1, 7);
        faulty("most 999999;", 1, 5);
        faulty("0 most", 1, 0);
        // 1 and 3: a WORD that was told, where none can come.
        faulty("most 5;bar most 5;", 1, 11);
        faulty("most 5;bar 1 most 5;", 1, 13);
        faulty("most most 5;", 1, 5);
        faulty("most 5 most 5;", 1, 7);
    }

    private static void cannotCome() {
        Check.words("1 no TOKEN, or one that can't come (at it");
        for (String first : new String[] {";", "5", "a", "?", "mos", "mostly", "tsom", "7most", "ringbar"}) {
            faulty(first + " 5;", 1, 0);
            faulty(" most 5;\n" + first + " 5;", 1, 9);
        }
        for (String second : new String[] {";", "most", "bar", "x", "?", "-5", "123456", "5x", "."}) {
            faulty("most " + second + ";", 1, 5);
        }
        for (String third : new String[] {"most", "bar", "5", "x", "?", ":", "123456", "5x"}) {
            faulty("most 5 " + third + ";", 1, 7);
        }
        for (String word : WORDS) {
            faulty(word.substring(1) + " 2;", 1, 0);
            faulty(word.substring(0, word.length() - 1) + " 2;", 1, 0);
            faulty(word + "s 2;", 1, 0);
            for (int i = 0; i < word.length(); i++) {
                faulty(word.substring(0, i) + "x" + word.substring(i + 1) + " 2;", 1, 0);
            }
        }
    }

    private static void theEnd() {
        Check.words("the end: how many bytes there are");
        faulty("most", 1, 4);
        faulty("most ", 1, 5);
        faulty("most 5", 1, 6);
        faulty("most 5\n \n", 1, 9);
        faulty("most 5;bar", 1, 10);
        faulty(filled(295) + "most", 1, 299);
        faulty(filled(296) + "most", 1, 300);
        faulty("most" + filled(296), 1, 300);
        faulty("most 5" + filled(294), 1, 300);
    }

    private static void moreThan300() {
        Check.words("300, if there are more and no FAULT is ahead");
        for (int more : new int[] {1, 2, 19, 20}) {
            faulty(filled(300 + more), 1, 300);
            faulty("bar 1;" + filled(294 + more), 1, 300);
            faulty(filled(294) + "bar 1;" + filled(more), 1, 300);
            faulty("bar" + filled(297 + more), 1, 300);
            faulty("bar 0" + filled(295 + more), 2, 4);
            faulty("bar 1;bar 1;" + filled(288 + more), 3, 6);
            faulty(filled(299) + "?" + filled(more), 1, 299);
            faulty(filled(299) + ";" + filled(more), 1, 299);
            faulty(filled(300) + "?".repeat(more), 1, 300);
        }
        faulty("bar 1;" + filled(294) + "bar 1;", 1, 300);
        faulty("bar" + filled(297) + "0;", 1, 300);
    }

    private static void readWhole() {
        Check.words("TOKENS that begin ahead of it are read whole");
        // The WORD and the NUMBER begin at 299, the last place ahead of 300.
        faulty(filled(299) + "bar 1;", 1, 300);
        faulty(filled(299) + "barx 1;", 1, 299);
        faulty(filled(299) + "b", 1, 299);
        faulty(filled(299) + "sureties 1;", 1, 300);
        faulty("bar 1;" + filled(293) + "bar 1;", 3, 299);
        faulty(filled(295) + "bar 9;", 1, 300);
        faulty(filled(295) + "bar 10;", 2, 299);
        faulty(filled(295) + "bar 00009;", 1, 300);
        faulty(filled(295) + "bar 000009;", 1, 299);
        faulty(filled(295) + "bar 9x;", 1, 299);
        faulty(filled(294) + "keep 99999;", 1, 300);
        // At 300 nothing is read any more.
        faulty(filled(300) + "bar 1;", 1, 300);
        faulty("bar 1;" + filled(294) + "?", 1, 300);
        faulty(filled(296) + "bar 0;", 1, 300);
    }

    private static void numberNotAsTold() {
        Check.words("2 a NUMBER that is not as told (at it)");
        faulty("bar 0", 2, 4);
        faulty("bar   0;", 2, 6);
        faulty("bar\n\n00000;", 2, 5);
        faulty("keep 5; bar 10;", 2, 12);
        faulty("bar 00010;", 2, 4);
    }

    private static void eachOnceAtMost() {
        Check.words("each once at most");
        for (int k = 0; k < 9; k++) {
            for (int other = 0; other < 9; other++) {
                String first = WORDS[k] + " 2;";
                if (other == k) {
                    faulty(first + WORDS[other] + " 2;", 3, first.length());
                } else {
                    told(first + WORDS[other] + " 2;", 2);
                }
            }
        }
    }

    private static void toldTwice() {
        Check.words("3 a RULE told twice (at its WORD)");
        for (int k = 0; k < 9; k++) {
            String one = WORDS[k] + " 2;";
            faulty(one + one, 3, one.length());
            faulty(one + "\n " + one, 3, one.length() + 2);
            String other = WORDS[(k + 1) % 9] + " 2;";
            faulty(one + other + one, 3, one.length() + other.length());
        }
        LoanChest x = new LoanChest();
        Check.same("once", Check.rules(x, "bar 1;"), 1);
        Check.same("once more in a text of its own", Check.rules(x, "bar 1;"), 1);
        Check.same("a fault", Check.rules(x, "bar 1;?"), -7);
        Check.same("and behind that", Check.rules(x, "bar 1;"), 1);
    }

    private static void emptyThen() {
        Check.words("The tape (empty then, here and below)");
        for (String text : new String[] {"", "bar 1;", "bar 0;", "bar 1;bar 1;", "?", filled(320)}) {
            LoanChest x = new LoanChest();
            Check.rules(x, text);
            Check.same("bytes behind '" + text + "'", x.count(7), 0);
            Check.no("end(1)", x.end(1));
            Check.same("feed", x.feed(0, 0, 0, 0, 0), 20);
        }
        LoanChest x = Check.chest(3, 100, "");
        Check.same("a loan", Check.ask(x, 0, 5, 1, 2), 0);
        Check.same("bytes", x.count(7), 0);
        Check.same("refused", Check.ask(x, 0, 5, 1, 2), -4);
        Check.same("bytes", x.count(7), 0);
        Check.text(x, "bar 1;");
        Check.same("refused: no such one", x.ask(3, 5), -2);
        Check.same("bytes", x.count(7), 0);
    }

    private static void fromNowOn() {
        Check.words("are the RULES from now on: how many were told");
        LoanChest x = new LoanChest();
        Check.same("two", Check.rules(x, "most 7;keep 8;"), 2);
        Check.same("one", Check.rules(x, "keep 9;"), 1);
        Check.row("rule", new int[] {100, 20, 2, 2, 1, 4, 9, 2, 3}, x::rule);
        Check.same("none", Check.rules(x, ""), 0);
        Check.row("rule", USUAL, x::rule);
    }

    private static void theyStay() {
        Check.words("-1 less the place of a FAULT: they stay");
        Twins.sameButFault("?", 1, 0);
        Twins.sameButFault("most 9;weeks 9;sureties 3;stands 9;late 9;call 9;keep 9;ring 9;bar 10;", 2, 67);
        Twins.sameButFault("most 9;weeks 9;sureties 3;stands 9;late 9;call 9;keep 9;ring 9;bar 9;?", 1, 69);
        Twins.sameButFault("most 9;weeks 9;sureties 3;stands 9;late 9;call 9;keep 9;ring 9;bar 9", 1, 68);
        Twins.sameButFault("late 9;late 8;", 3, 7);
        Twins.sameButFault("late 9;" + filled(294), 1, 300);
    }

    private static void kindOfTheLatest() {
        Check.words("The kind of the FAULT of the latest rules(); 0 without one and ahead of any.");
        LoanChest x = new LoanChest();
        Check.same("ahead of any", x.fault(), 0);
        Check.text(x, "?");
        Check.same("a text that was not read yet", x.fault(), 0);
        x.rules();
        Check.same("1", x.fault(), 1);
        Check.same("1 again", x.fault(), 1);
        Check.rules(x, "bar 0;");
        Check.same("2", x.fault(), 2);
        Check.rules(x, "bar 1;bar 1;");
        Check.same("3", x.fault(), 3);
        Check.text(x, "bar 1;");
        x.ask(0, 1);
        x.next();
        Check.same("3 still", x.fault(), 3);
        x.rules();
        Check.same("0 of an empty text", x.fault(), 0);
        Check.rules(x, "?");
        Check.rules(x, "bar 1;");
        Check.same("0 of a good one", x.fault(), 0);
        Check.same("of another object", new LoanChest().fault(), 0);
    }

    private static void ruleByNumber() {
        Check.words("RULE k now (0 to 8: most, weeks, sureties, stands, late, call, keep, ring, bar). NONE for another "
            + "k.");
        LoanChest x = new LoanChest();
        Check.rules(x, "bar 1;ring 3;keep 4;call 5;late 6;stands 7;sureties 0;weeks 8;most 9;");
        Check.row("rule", new int[] {9, 8, 0, 7, 6, 5, 4, 3, 1, -1, -1}, x::rule);
        for (int k : new int[] {-1, 9, 10, 256, Integer.MIN_VALUE, Integer.MAX_VALUE}) {
            Twins.same("rule(" + k + ")", -1, chest -> chest.rule(k));
        }
    }
}
