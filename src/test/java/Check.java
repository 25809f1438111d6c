import java.util.NoSuchElementException;

/** What the tests share: saying what is wrong, and calls that need more than one line. */
final class Check {
    /** Stands for an answer that is a NoSuchElementException. */
    static final long THROWS = Long.MIN_VALUE;

    private static int wrong = 0;
    private static String words = "";

    interface Call {
        long answer();
    }

    /** The document's own words for which the checks from here on are; they are told with every wrong answer. */
    static void words(String quoted) {
        words = "\"" + quoted + "\": ";
    }

    static void same(String what, long got, long due) {
        if (got != due) {
            wrong++;
            System.out.println(words + what + " answered " + shown(got) + ", due is " + shown(due));
        }
    }

    static void yes(String what, boolean got) {
        same(what, got ? 1 : 0, 1);
    }

    static void no(String what, boolean got) {
        same(what, got ? 1 : 0, 0);
    }

    static void refuses(String what, Call call) {
        same(what, answerOf(call), THROWS);
    }

    static long answerOf(Call call) {
        try {
            return call.answer();
        } catch (NoSuchElementException e) {
            return THROWS;
        }
    }

    /** Every answer of a row of calls, in turn. */
    static void row(String what, int[] due, java.util.function.IntUnaryOperator call) {
        for (int i = 0; i < due.length; i++) {
            same(what + " " + i, call.applyAsInt(i), due[i]);
        }
    }

    static void finish() {
        if (wrong > 0) {
            System.out.println(wrong + " wrong");
            System.exit(1);
        }
    }

    /** Puts these bytes alone on the tape. */
    static void tape(LoanChest chest, int... bytes) {
        chest.end(0);
        for (int i = 0; i < bytes.length; i += 20) {
            int[] five = new int[5];
            for (int j = 0; j < 20; j++) {
                int one = i + j < bytes.length ? bytes[i + j] : 0;
                five[j / 4] = five[j / 4] << 8 | one;
            }
            chest.feed(five[0], five[1], five[2], five[3], five[4]);
        }
        chest.end(bytes.length);
    }

    static void text(LoanChest chest, String text) {
        int[] bytes = new int[text.length()];
        for (int i = 0; i < bytes.length; i++) {
            bytes[i] = text.charAt(i);
        }
        tape(chest, bytes);
    }

    static int rules(LoanChest chest, String text) {
        text(chest, text);
        return chest.rules();
    }

    static int ask(LoanChest chest, int person, int amount, int... sureties) {
        tape(chest, sureties);
        return chest.ask(person, amount);
    }

    static LoanChest chest(int people, int pence, String rules) {
        LoanChest made = new LoanChest();
        people(made, people);
        made.gift(0, pence);
        rules(made, rules);
        return made;
    }

    static void people(LoanChest chest, int howMany) {
        for (int i = 0; i < howMany; i++) {
            chest.person(0);
        }
    }

    static void weeks(LoanChest chest, int howMany) {
        for (int i = 0; i < howMany; i++) {
            chest.next();
        }
    }

    private static String shown(long answer) {
        return answer == THROWS ? "NoSuchElementException" : Long.toString(answer);
    }

    private Check() {
    }
}
