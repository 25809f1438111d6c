import java.util.ArrayList;
import java.util.NoSuchElementException;

/** A parish's loan chest. The document's promises say what each call answers; its Terms say what the words mean. */
public final class LoanChest {
    public static final int NONE = -1;

    private static final int LAST_WEEK = 400;
    private static final int MOST_PEOPLE = 40;
    private static final int ALL_TAGS = 255;
    private static final int HOW_MANY_TAGS = 8;
    private static final int MOST_FUNDS = 6;
    private static final int MOST_LOANS = 100;
    private static final int MOST_GIVEN_AT_ONCE = 100000;
    private static final int MOST_IN_A_FUND = 1000000;

    private static final int OPEN = 0;
    private static final int REPAID = 1;
    private static final int CALLED = 2;

    private static final Kind[] KINDS = Kind.values();

    private final Tape tape = new Tape();
    private final RuleReader reader = new RuleReader();
    private final Rules law = new Rules();
    private final Funds purse = new Funds();
    private final Ledger ledger = new Ledger();
    private final int[] tagsOf = new int[MOST_PEOPLE];
    private int people = 0;
    private int week = 0;

    public LoanChest() {
    }

    public int feed(int a, int b, int c, int d, int e) {
        if (!tape.hasRoomForFive()) {
            return NONE;
        }
        tape.append(a);
        tape.append(b);
        tape.append(c);
        tape.append(d);
        tape.append(e);
        return tape.length();
    }

    public boolean end(int n) {
        return tape.cutTo(n);
    }

    public int rules() {
        int answer = reader.readAll(tape);
        if (answer >= 0) {
            law.takeOver(reader);
        }
        tape.cutTo(0);
        return answer;
    }

    public int fault() {
        return reader.faultKind();
    }

    public int rule(int k) {
        if (k < 0 || k >= KINDS.length) {
            return NONE;
        }
        return law.current(KINDS[k]);
    }

    public int person(int tags) {
        if (people >= MOST_PEOPLE || tags < 0 || tags > ALL_TAGS) {
            return NONE;
        }
        tagsOf[people] = tags;
        people++;
        return people - 1;
    }

    public boolean tag(int person, int t, boolean on) {
        if (!isPerson(person) || !isTag(t)) {
            return false;
        }
        boolean was = (tagsOf[person] >> t & 1) != 0;
        if (was == on) {
            return false;
        }
        tagsOf[person] ^= 1 << t;
        return true;
    }

    public int fund(int t, int pence) {
        if (!isTag(t) || pence < 0 || pence > MOST_GIVEN_AT_ONCE) {
            return NONE;
        }
        return purse.found(t, pence, week);
    }

    public int gift(int f, int pence) {
        if (!purse.has(f) || pence < 1 || pence > MOST_GIVEN_AT_ONCE) {
            return NONE;
        }
        return purse.give(f, pence);
    }

    public int ask(int person, int amount) {
        int why = whyRefused(person, amount);
        int answer = why > 0 ? -1 - why : lend(person, amount);
        tape.cutTo(0);
        return answer;
    }

    public boolean pay(int person, int pence) {
        if (!isPerson(person) || pence < 1 || pence > ledger.debtOf(person)) {
            return false;
        }
        ledger.takePayment(person, pence, purse);
        return true;
    }

    public int owes(int person) {
        return isPerson(person) ? ledger.debtOf(person) : NONE;
    }

    public int next() {
        if (week >= LAST_WEEK) {
            return NONE;
        }
        purse.writeDown(week);
        ledger.endWeek(week);
        week++;
        return week;
    }

    public int chest(int f, int week) {
        if (!purse.has(f) || week < 0 || week > this.week) {
            return NONE;
        }
        return week == this.week ? purse.penceNow(f) : purse.penceAtEnd(f, week);
    }

    public int loan(int k, int what) throws NoSuchElementException {
        Loan of = ledger.loanAt(k);
        if (of == null) {
            throw new NoSuchElementException("no such loan");
        }
        switch (what) {
            case 0: return of.borrower;
            case 1: return of.amount;
            case 2: return of.began;
            case 3: return of.paid;
            case 4: return of.fines;
            case 5: return of.finesPaid;
            case 6: return of.timesLate;
            case 7: return of.state;
            case 8: return of.sureties.length;
            case 9: return of.cameBack;
            default: throw new NoSuchElementException("no such thing is told of a loan");
        }
    }

    public int surety(int k, int i) throws NoSuchElementException {
        Loan of = ledger.loanAt(k);
        if (of == null || i < 0 || i >= of.sureties.length) {
            throw new NoSuchElementException("no such surety");
        }
        return of.sureties[i];
    }

    public int taken(int k, int f) throws NoSuchElementException {
        Loan of = ledger.loanAt(k);
        if (of == null || !purse.has(f)) {
            throw new NoSuchElementException("no such loan or fund");
        }
        return of.takenFrom[f];
    }

    public int about(int person, int what) throws NoSuchElementException {
        if (!isPerson(person)) {
            throw new NoSuchElementException("no such person");
        }
        switch (what) {
            case 0: return tagsOf[person];
            case 1: return ledger.characterOf(person);
            case 2: return isBarred(person) ? 1 : 0;
            case 3: return openLoanNumber(person);
            case 4: return ledger.standsFor(person);
            case 5: return ledger.unpaidCalls(person);
            case 6: return ledger.owedByCalls(person);
            default: throw new NoSuchElementException("no such thing is told of a person");
        }
    }

    public int ring(int person) {
        Loan open = isPerson(person) ? ledger.openLoanOf(person) : null;
        return open == null ? NONE : ledger.shortestRing(person, open.suretyBits);
    }

    public int count(int what) {
        switch (what) {
            case 0: return week;
            case 1: return people;
            case 2: return purse.howMany();
            case 3: return ledger.howManyLoans();
            case 4: return ledger.howManyOpen();
            case 5: return ledger.lostPence();
            case 6: return purse.givenInAll();
            case 7: return tape.length();
            default: return NONE;
        }
    }

    private boolean isPerson(int number) {
        return number >= 0 && number < people;
    }

    private static boolean isTag(int t) {
        return t >= 0 && t < HOW_MANY_TAGS;
    }

    private boolean isBarred(int person) {
        return ledger.unpaidCalls(person) > 0 || ledger.calledLoansOf(person) >= law.current(Kind.BAR);
    }

    private int openLoanNumber(int person) {
        Loan open = ledger.openLoanOf(person);
        return open == null ? NONE : open.number;
    }

    /** Why a LOAN is REFUSED, 1 to 10; 0 if it is not. */
    private int whyRefused(int person, int amount) {
        int why = whyRefusedForBorrower(person, amount);
        if (why == 0) {
            why = whyRefusedForSureties(person);
        }
        if (why != 0) {
            return why;
        }
        int length = ledger.shortestRing(person, bitsOnTape());
        if (length != NONE && length <= law.current(Kind.RING)) {
            return 9;
        }
        return purse.canLend(tagsOf[person], law.current(Kind.KEEP)) < amount ? 10 : 0;
    }

    private int whyRefusedForBorrower(int person, int amount) {
        if (!isPerson(person)) {
            return 1;
        }
        if (amount < 1 || amount > law.current(Kind.MOST) || ledger.howManyLoans() >= MOST_LOANS) {
            return 2;
        }
        if (ledger.openLoanOf(person) != null) {
            return 3;
        }
        return isBarred(person) ? 4 : 0;
    }

    /** The first reason counts, not the first SURETY: each is looked for in all of them before the next one is. */
    private int whyRefusedForSureties(int person) {
        if (tape.length() != law.current(Kind.SURETIES)) {
            return 5;
        }
        if (!areOthersAllDifferent(person)) {
            return 6;
        }
        for (int i = 0; i < tape.length(); i++) {
            if (isBarred(tape.byteAt(i))) {
                return 7;
            }
        }
        for (int i = 0; i < tape.length(); i++) {
            if (ledger.standsFor(tape.byteAt(i)) >= law.current(Kind.STANDS)) {
                return 8;
            }
        }
        return 0;
    }

    private boolean areOthersAllDifferent(int person) {
        long met = bitOf(person);
        for (int i = 0; i < tape.length(); i++) {
            int one = tape.byteAt(i);
            if (!isPerson(one) || (met & bitOf(one)) != 0) {
                return false;
            }
            met |= bitOf(one);
        }
        return true;
    }

    private long bitsOnTape() {
        long bits = 0;
        for (int i = 0; i < tape.length(); i++) {
            bits |= bitOf(tape.byteAt(i));
        }
        return bits;
    }

    private int lend(int person, int amount) {
        Loan made = new Loan(ledger.howManyLoans(), person, amount, week, tape.copy(), bitsOnTape(), law);
        purse.lendTo(made, tagsOf[person], law.current(Kind.KEEP));
        ledger.enter(made);
        return made.number;
    }

    /** PEOPLE are fewer than a long has bits, so that a set of them is one long. */
    private static long bitOf(int person) {
        return 1L << person;
    }

    /** The RULES by their numbers: the WORD, the NUMBERS that it may have, and the one that holds without it. */
    private enum Kind {
        MOST(0, "most", 1, 9999, 100),
        WEEKS(1, "weeks", 1, 60, 20),
        SURETIES(2, "sureties", 0, 3, 2),
        STANDS(3, "stands", 1, 9, 2),
        LATE(4, "late", 0, 99, 1),
        CALL(5, "call", 1, 20, 4),
        KEEP(6, "keep", 0, 99999, 0),
        RING(7, "ring", 0, 9, 2),
        BAR(8, "bar", 1, 9, 3);

        final int number;
        final String word;
        final int least;
        final int highest;
        final int usual;

        Kind(int number, String word, int least, int highest, int usual) {
            this.number = number;
            this.word = word;
            this.least = least;
            this.highest = highest;
            this.usual = usual;
        }
    }

    private static final class Tape {
        private static final int ROOM = 320;
        private static final int BYTES_OF_FIVE = 20;

        private final int[] bytes = new int[ROOM];
        private int length = 0;

        int length() {
            return length;
        }

        boolean hasRoomForFive() {
            return length + BYTES_OF_FIVE <= ROOM;
        }

        void append(int four) {
            for (int shift = 24; shift >= 0 && length < ROOM; shift -= 8) {
                bytes[length] = four >> shift & 255;
                length++;
            }
        }

        boolean cutTo(int n) {
            if (n < 0 || n > length) {
                return false;
            }
            length = n;
            return true;
        }

        int byteAt(int i) {
            return i >= 0 && i < length ? bytes[i] : NONE;
        }

        int[] copy() {
            int[] made = new int[length];
            System.arraycopy(bytes, 0, made, 0, length);
            return made;
        }
    }

    /** The RULES as they are now. */
    private static final class Rules {
        private final int[] values = new int[KINDS.length];

        Rules() {
            for (int k = 0; k < KINDS.length; k++) {
                values[k] = KINDS[k].usual;
            }
        }

        int current(Kind kind) {
            return values[kind.number];
        }

        void takeOver(RuleReader reader) {
            for (int k = 0; k < KINDS.length; k++) {
                values[k] = reader.valueRead(KINDS[k]);
            }
        }
    }

    /** Reads a text of RULES along its TOKENS and stops at the first FAULT. */
    private static final class RuleReader {
        private static final int MOST_TEXT = 300;
        private static final int MOST_DIGITS = 5;

        private static final int NO_TOKEN = 0;
        private static final int WORD = 1;
        private static final int NUMBER = 2;
        private static final int SEMICOLON = 3;
        private static final int THE_END = 4;

        private final int[] read = new int[KINDS.length];
        private final boolean[] met = new boolean[KINDS.length];
        private int form = NO_TOKEN;
        private int start = 0;
        private int behind = 0;
        private int faultKind = 0;

        int faultKind() {
            return faultKind;
        }

        int valueRead(Kind kind) {
            return read[kind.number];
        }

        /** How many RULES the text tells; -1 less the place of its FAULT. */
        int readAll(Tape text) {
            startAgain();
            // Each RULE comes once at most: behind the ninth one there is the end or a FAULT.
            for (int told = 0; told <= KINDS.length; told++) {
                step(text);
                if (form == THE_END) {
                    return told;
                }
                faultKind = faultOfRule(text);
                if (faultKind != 0) {
                    return -1 - start;
                }
            }
            return -1 - start;
        }

        private void startAgain() {
            for (int k = 0; k < KINDS.length; k++) {
                read[k] = KINDS[k].usual;
                met[k] = false;
            }
            behind = 0;
            faultKind = 0;
        }

        /** Reads on from the RULE's first TOKEN; a FAULT is at the TOKEN that was read last. */
        private int faultOfRule(Tape text) {
            Kind kind = form == WORD ? kindOfWord(text) : null;
            if (kind == null) {
                return 1;
            }
            if (met[kind.number]) {
                return 3;
            }
            met[kind.number] = true;
            step(text);
            if (form != NUMBER) {
                return 1;
            }
            int value = numberRead(text);
            if (value < kind.least || value > kind.highest) {
                return 2;
            }
            read[kind.number] = value;
            step(text);
            return form == SEMICOLON ? 0 : 1;
        }

        /** Goes to the next TOKEN. One that begins within the text's 300 bytes is read whole, even beyond them. */
        private void step(Tape text) {
            int last = Math.min(text.length(), MOST_TEXT);
            start = Math.min(behind, last);
            while (start < last && isBlank(text.byteAt(start))) {
                start++;
            }
            if (start < last) {
                readToken(text);
            } else {
                form = text.length() > MOST_TEXT ? NO_TOKEN : THE_END;
            }
        }

        private void readToken(Tape text) {
            behind = start;
            int letters = 0;
            int digits = 0;
            while (behind < text.length() && isLetterOrDigit(text.byteAt(behind))) {
                if (isDigit(text.byteAt(behind))) {
                    digits++;
                } else {
                    letters++;
                }
                behind++;
            }
            if (letters > 0) {
                form = digits == 0 ? WORD : NO_TOKEN;
            } else if (digits > 0) {
                form = digits <= MOST_DIGITS ? NUMBER : NO_TOKEN;
            } else {
                form = text.byteAt(start) == ';' ? SEMICOLON : NO_TOKEN;
                behind = start + 1;
            }
        }

        private Kind kindOfWord(Tape text) {
            for (int k = 0; k < KINDS.length; k++) {
                if (isWordRead(KINDS[k].word, text)) {
                    return KINDS[k];
                }
            }
            return null;
        }

        private boolean isWordRead(String word, Tape text) {
            if (word.length() != behind - start) {
                return false;
            }
            for (int i = 0; i < word.length(); i++) {
                if (word.charAt(i) != text.byteAt(start + i)) {
                    return false;
                }
            }
            return true;
        }

        private int numberRead(Tape text) {
            int value = 0;
            for (int i = start; i < behind; i++) {
                value = value * 10 + text.byteAt(i) - '0';
            }
            return value;
        }

        private static boolean isBlank(int sign) {
            return sign == 32 || sign == 10;
        }

        private static boolean isDigit(int sign) {
            return sign >= '0' && sign <= '9';
        }

        private static boolean isLetterOrDigit(int sign) {
            return sign >= 'a' && sign <= 'z' || isDigit(sign);
        }
    }

    /** The FUNDS and the book of what they had at the end of each WEEK. */
    private static final class Funds {
        private final int[] pence = new int[MOST_FUNDS];
        private final int[] tagOf = new int[MOST_FUNDS];
        private final int[] madeIn = new int[MOST_FUNDS];
        private final int[] book = new int[MOST_FUNDS * LAST_WEEK];
        private int made = 1;
        private int given = 0;

        int howMany() {
            return made;
        }

        int givenInAll() {
            return given;
        }

        boolean has(int f) {
            return f >= 0 && f < made;
        }

        int penceNow(int f) {
            return pence[f];
        }

        int penceAtEnd(int f, int week) {
            return week < madeIn[f] ? NONE : book[week * MOST_FUNDS + f];
        }

        void writeDown(int week) {
            for (int f = 0; f < made; f++) {
                book[week * MOST_FUNDS + f] = pence[f];
            }
        }

        int found(int tag, int sum, int week) {
            if (made >= MOST_FUNDS) {
                return NONE;
            }
            pence[made] = sum;
            tagOf[made] = tag;
            madeIn[made] = week;
            given += sum;
            made++;
            return made - 1;
        }

        int give(int f, int sum) {
            if (pence[f] > MOST_IN_A_FUND - sum) {
                return NONE;
            }
            pence[f] += sum;
            given += sum;
            return pence[f];
        }

        int canLend(int tags, int keep) {
            int sum = aboveKeep(keep);
            for (int f = 1; f < made; f++) {
                if (isFor(f, tags)) {
                    sum += pence[f];
                }
            }
            return sum;
        }

        void lendTo(Loan loan, int tags, int keep) {
            int rest = loan.amount;
            for (int f = 1; f < made; f++) {
                if (isFor(f, tags)) {
                    rest -= take(loan, f, Math.min(rest, pence[f]));
                }
            }
            take(loan, 0, Math.min(rest, aboveKeep(keep)));
        }

        /** FUND 0 was taken from last, the others by rising numbers: they have it back the other way round. */
        void bringBack(Loan loan, int sum) {
            int rest = sum - putBack(loan, 0, sum);
            for (int f = MOST_FUNDS - 1; f > 0; f--) {
                rest -= putBack(loan, f, rest);
            }
            loan.cameBack += sum;
        }

        void addForAll(int sum) {
            pence[0] += sum;
        }

        private boolean isFor(int f, int tags) {
            return (tags >> tagOf[f] & 1) != 0;
        }

        private int aboveKeep(int keep) {
            return Math.max(0, pence[0] - keep);
        }

        private int take(Loan loan, int f, int sum) {
            pence[f] -= sum;
            loan.takenFrom[f] = sum;
            loan.stillAway[f] = sum;
            return sum;
        }

        private int putBack(Loan loan, int f, int most) {
            int sum = Math.min(most, loan.stillAway[f]);
            loan.stillAway[f] -= sum;
            pence[f] += sum;
            return sum;
        }
    }

    private static final class Loan {
        final int number;
        final int borrower;
        final int amount;
        final int began;
        final int[] sureties;
        final long suretyBits;
        final int weeks;
        final int late;
        final int call;
        final int[] takenFrom = new int[MOST_FUNDS];
        final int[] stillAway = new int[MOST_FUNDS];
        int paid = 0;
        int fines = 0;
        int finesPaid = 0;
        int timesLate = 0;
        int lateInARow = 0;
        int state = OPEN;
        int cameBack = 0;

        Loan(int number, int borrower, int amount, int began, int[] sureties, long suretyBits, Rules law) {
            this.number = number;
            this.borrower = borrower;
            this.amount = amount;
            this.began = began;
            this.sureties = sureties;
            this.suretyBits = suretyBits;
            this.weeks = law.current(Kind.WEEKS);
            this.late = law.current(Kind.LATE);
            this.call = law.current(Kind.CALL);
        }

        boolean isOpenOf(int person) {
            return state == OPEN && borrower == person;
        }

        boolean isOpenWithSurety(int person) {
            return state == OPEN && (suretyBits & bitOf(person)) != 0;
        }

        int rest() {
            return amount - paid + fines - finesPaid;
        }

        int dueAtEnd(int week) {
            int k = Math.min(week - began, weeks);
            return weeks < 1 ? amount : (amount * k + weeks - 1) / weeks;
        }

        /** Whether the LOAN has been LATE long enough, with this WEEK, to be CALLED. */
        boolean isToBeCalledAtEnd(int week) {
            if (paid >= dueAtEnd(week)) {
                lateInARow = 0;
                return false;
            }
            timesLate++;
            lateInARow++;
            fines += late;
            return lateInARow >= call;
        }
    }

    /** What a SURETY has to pay for a LOAN that was CALLED. */
    private static final class Call {
        final int person;
        final Loan loan;
        private final int sum;
        private int paid = 0;

        Call(int person, Loan loan, int sum) {
            this.person = person;
            this.loan = loan;
            this.sum = sum;
        }

        int rest() {
            return sum - paid;
        }

        void receive(int part) {
            paid += part;
        }
    }

    /** All LOANS and CALLS, in the order in which they came. */
    private static final class Ledger {
        private final ArrayList<Loan> loans = new ArrayList<>();
        private final ArrayList<Call> calls = new ArrayList<>();
        private int lost = 0;

        int howManyLoans() {
            return loans.size();
        }

        int lostPence() {
            return lost;
        }

        void enter(Loan loan) {
            loans.add(loan);
        }

        Loan loanAt(int k) {
            return k >= 0 && k < loans.size() ? loans.get(k) : null;
        }

        int howManyOpen() {
            int open = 0;
            for (int k = 0; k < loans.size(); k++) {
                if (loans.get(k).state == OPEN) {
                    open++;
                }
            }
            return open;
        }

        Loan openLoanOf(int person) {
            for (int k = 0; k < loans.size(); k++) {
                if (loans.get(k).isOpenOf(person)) {
                    return loans.get(k);
                }
            }
            return null;
        }

        int calledLoansOf(int person) {
            int called = 0;
            for (int k = 0; k < loans.size(); k++) {
                if (loans.get(k).borrower == person && loans.get(k).state == CALLED) {
                    called++;
                }
            }
            return called;
        }

        int standsFor(int person) {
            int stands = 0;
            for (int k = 0; k < loans.size(); k++) {
                if (loans.get(k).isOpenWithSurety(person)) {
                    stands++;
                }
            }
            return stands;
        }

        int characterOf(int person) {
            int character = 100;
            for (int k = 0; k < loans.size(); k++) {
                if (loans.get(k).borrower == person) {
                    character += worthOf(loans.get(k));
                }
            }
            return Math.max(0, Math.min(200, character));
        }

        private static int worthOf(Loan loan) {
            int worth = -2 * loan.timesLate;
            if (loan.state == REPAID) {
                worth += loan.timesLate == 0 ? 10 : 5;
            } else if (loan.state == CALLED) {
                worth -= 30;
            }
            return worth;
        }

        int unpaidCalls(int person) {
            int unpaid = 0;
            for (int i = 0; i < calls.size(); i++) {
                if (calls.get(i).person == person && calls.get(i).rest() > 0) {
                    unpaid++;
                }
            }
            return unpaid;
        }

        int owedByCalls(int person) {
            int sum = 0;
            for (int i = 0; i < calls.size(); i++) {
                if (calls.get(i).person == person) {
                    sum += calls.get(i).rest();
                }
            }
            return sum;
        }

        int debtOf(int person) {
            Loan open = openLoanOf(person);
            return owedByCalls(person) + (open == null ? 0 : open.rest());
        }

        /** The length of the shortest RING with a LOAN of the borrower's that has these SURETIES; NONE without one. */
        int shortestRing(int borrower, long sureties) {
            long reached = sureties;
            for (int length = 1; length <= MOST_PEOPLE && reached != 0; length++) {
                if ((reached & bitOf(borrower)) != 0) {
                    return length;
                }
                reached = suretiesOfAll(reached);
            }
            return NONE;
        }

        private long suretiesOfAll(long borrowers) {
            long sureties = 0;
            for (int k = 0; k < loans.size(); k++) {
                Loan loan = loans.get(k);
                if (loan.state == OPEN && (borrowers & bitOf(loan.borrower)) != 0) {
                    sureties |= loan.suretyBits;
                }
            }
            return sureties;
        }

        void endWeek(int week) {
            for (int k = 0; k < loans.size(); k++) {
                Loan loan = loans.get(k);
                if (loan.state == OPEN && loan.began < week && loan.isToBeCalledAtEnd(week)) {
                    callIn(loan);
                }
            }
        }

        private void callIn(Loan loan) {
            loan.state = CALLED;
            int rest = loan.rest();
            int parts = loan.sureties.length;
            if (parts == 0) {
                lost += rest;
                return;
            }
            for (int i = 0; i < parts; i++) {
                int sum = rest / parts + (i < rest % parts ? 1 : 0);
                if (sum > 0) {
                    calls.add(new Call(loan.sureties[i], loan, sum));
                }
            }
        }

        void takePayment(int person, int pence, Funds funds) {
            int rest = pence;
            for (int i = 0; i < calls.size(); i++) {
                if (calls.get(i).person == person) {
                    rest -= payCall(calls.get(i), rest, funds);
                }
            }
            Loan open = openLoanOf(person);
            if (open != null) {
                payLoan(open, rest, funds);
            }
        }

        private static int payCall(Call call, int most, Funds funds) {
            int part = Math.min(most, call.rest());
            int ofAmount = Math.min(part, call.loan.amount - call.loan.cameBack);
            call.receive(part);
            funds.bringBack(call.loan, ofAmount);
            funds.addForAll(part - ofAmount);
            return part;
        }

        private static void payLoan(Loan loan, int pence, Funds funds) {
            int ofFines = Math.min(pence, loan.fines - loan.finesPaid);
            int ofAmount = Math.min(pence - ofFines, loan.amount - loan.paid);
            loan.finesPaid += ofFines;
            funds.addForAll(ofFines);
            loan.paid += ofAmount;
            funds.bringBack(loan, ofAmount);
            if (loan.rest() == 0) {
                loan.state = REPAID;
            }
        }
    }
}
