import java.util.ArrayList;
import java.util.List;

/**
 * Two chests made alike: one of them has a call that must change nothing, and from then on both must answer alike,
 * also when their tape is read and when WEEKS end, so that what no call tells at once is compared too.
 * All of it stays below the 512 calls of one object as long as what is done ahead of it is short.
 */
final class Twins {
    /** What busy() leaves on the tape: each of its bytes shows in the RULES that it tells. */
    static final String ON_THE_TAPE = "most 77;keep 12345;bar 7;";

    private static final int WEEKS_TO_COME = 3;

    interface Deed {
        void on(LoanChest chest);
    }

    interface Question {
        long of(LoanChest chest);
    }

    /** The call answers what is due, and nothing is changed by it. */
    static void same(String what, long due, Deed before, Question call) {
        LoanChest asked = madeBy(before);
        LoanChest left = madeBy(before);
        Check.same(what, Check.answerOf(() -> call.of(asked)), due);
        Check.same("fault() behind " + what, asked.fault(), left.fault());
        goOnAlike(what, asked, left);
    }

    /** The same in a chest where much is under way. */
    static void same(String what, long due, Question call) {
        same(what, due, Twins::busy, call);
    }

    /** The call answers what is due, and nothing is changed by it but that the tape is empty. */
    static void sameButTape(String what, long due, Deed before, Question call) {
        LoanChest asked = madeBy(before);
        LoanChest left = madeBy(before);
        Check.same(what, call.of(asked), due);
        Check.same("tape behind " + what, asked.count(7), 0);
        Check.same("fault() behind " + what, asked.fault(), left.fault());
        left.end(0);
        goOnAlike(what, asked, left);
    }

    /** rules() of this text finds a FAULT; nothing is changed by it but fault() and that the tape is empty. */
    static void sameButFault(String text, int kind, int place) {
        LoanChest asked = madeBy(Twins::busy);
        LoanChest left = madeBy(Twins::busy);
        Check.same("rules() of '" + text + "'", Check.rules(asked, text), -1 - place);
        Check.same("fault() of '" + text + "'", asked.fault(), kind);
        Check.same("tape behind '" + text + "'", asked.count(7), 0);
        left.end(0);
        goOnAlike("rules() of '" + text + "'", asked, left);
    }

    /**
     * In WEEK 3: LOAN 0 was CALLED and a part of its CALL, for 1, came; LOAN 1, of 3 with 2 as SURETY, from FUNDS 1
     * and 2, was LATE once, will be CALLED when the WEEK ends, and a part of its FINES came; LOAN 2 of 4 was REPAID.
     */
    static void busy(LoanChest chest) {
        for (int tags : new int[] {0, 1, 128, 129, 255, 0}) {
            chest.person(tags);
        }
        chest.gift(0, 500);
        chest.fund(0, 30);
        chest.fund(7, 40);
        Check.rules(chest, "sureties 1;weeks 4;late 3;call 2;stands 2;ring 2;most 60;keep 5;bar 1;");
        Check.ask(chest, 0, 50, 1);
        chest.next();
        Check.ask(chest, 3, 60, 2);
        Check.ask(chest, 4, 20, 5);
        chest.pay(4, 20);
        Check.weeks(chest, 2);
        chest.pay(1, 7);
        chest.pay(3, 2);
        Check.text(chest, ON_THE_TAPE);
    }

    private static LoanChest madeBy(Deed before) {
        LoanChest made = new LoanChest();
        before.on(made);
        return made;
    }

    private static void goOnAlike(String what, LoanChest got, LoanChest due) {
        compare("behind " + what, told(got), told(due));
        Check.same("rules() behind " + what, got.rules(), due.rules());
        for (int k = 0; k < 9; k++) {
            Check.same("rule(" + k + ") of the tape behind " + what, got.rule(k), due.rule(k));
        }
        Check.weeks(got, WEEKS_TO_COME);
        Check.weeks(due, WEEKS_TO_COME);
        compare("some weeks behind " + what, told(got), told(due));
    }

    private static void compare(String what, List<String> got, List<String> due) {
        Check.yes(what + ": " + firstOther(got, due) + " is not as it was", got.equals(due));
    }

    private static String firstOther(List<String> got, List<String> due) {
        for (int i = 0; i < Math.min(got.size(), due.size()); i++) {
            if (!got.get(i).equals(due.get(i))) {
                return got.get(i);
            }
        }
        return "how much is told";
    }

    private static List<String> told(LoanChest x) {
        List<String> made = new ArrayList<>();
        for (int i = 0; i < 8; i++) {
            made.add("count(" + i + ") = " + x.count(i));
        }
        for (int i = 0; i < 9; i++) {
            made.add("rule(" + i + ") = " + x.rule(i));
        }
        for (int p = 0; p < Math.min(6, x.count(1)); p++) {
            for (int i = 0; i < 7; i++) {
                made.add("about(" + p + ", " + i + ") = " + x.about(p, i));
            }
            made.add("owes(" + p + ") = " + x.owes(p));
            made.add("ring(" + p + ") = " + x.ring(p));
        }
        tellLoans(x, made);
        for (int f = 0; f < x.count(2); f++) {
            for (int w = Math.max(0, x.count(0) - 4); w <= x.count(0); w++) {
                made.add("chest(" + f + ", " + w + ") = " + x.chest(f, w));
            }
        }
        return made;
    }

    private static void tellLoans(LoanChest x, List<String> made) {
        for (int k = 0; k < Math.min(4, x.count(3)); k++) {
            for (int i = 0; i < 10; i++) {
                made.add("loan(" + k + ", " + i + ") = " + x.loan(k, i));
            }
            for (int i = 0; i < x.loan(k, 8); i++) {
                made.add("surety(" + k + ", " + i + ") = " + x.surety(k, i));
            }
            for (int f = 0; f < x.count(2); f++) {
                made.add("taken(" + k + ", " + f + ") = " + x.taken(k, f));
            }
        }
    }

    private Twins() {
    }
}
