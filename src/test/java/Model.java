import java.util.ArrayDeque;
import java.util.ArrayList;
import java.util.HashMap;
import java.util.HashSet;
import java.util.LinkedHashMap;
import java.util.List;
import java.util.Map;
import java.util.NoSuchElementException;
import java.util.regex.Matcher;
import java.util.regex.Pattern;

/**
 * The document told a second time, with the Java library and with nothing shared with LoanChest, so that a slip in
 * one of them shows: texts by regular expressions, RINGS by a search from person to person, money as single pence.
 */
final class Model {
    static final String[] WORDS = {"most", "weeks", "sureties", "stands", "late", "call", "keep", "ring", "bar"};
    private static final int[][] BOUNDS =
        {{1, 9999}, {1, 60}, {0, 3}, {1, 9}, {0, 99}, {1, 20}, {0, 99999}, {0, 9}, {1, 9}};
    private static final int[] USUAL = {100, 20, 2, 2, 1, 4, 0, 2, 3};
    private static final Pattern TOKEN = Pattern.compile("(?s)([a-z0-9]+|[^a-z0-9])");

    private static final class Fund {
        int tag;
        int pence;
        final Map<Integer, Integer> ends = new HashMap<>();
    }

    private static final class Debt {
        int surety;
        Deal deal;
        int open;
    }

    private static final class Deal {
        int borrower, amount, began, weeks, late, call;
        int paid, fines, finesPaid, times, row, back;
        String state = "open";
        List<Integer> sureties = new ArrayList<>();
        /** The FUND of each penny that was taken, in the order of taking. */
        List<Integer> pennies = new ArrayList<>();
        /** Those pennies that did not come back. */
        ArrayDeque<Integer> away = new ArrayDeque<>();

        int rest() {
            return amount - paid + fines - finesPaid;
        }
    }

    private StringBuilder tape = new StringBuilder();
    private Map<String, Integer> rules = new LinkedHashMap<>();
    private int fault = 0;
    private final List<boolean[]> people = new ArrayList<>();
    private final List<Fund> funds = new ArrayList<>();
    private final List<Deal> deals = new ArrayList<>();
    private final List<Debt> debts = new ArrayList<>();
    private int week = 0;
    private int lost = 0;
    private int given = 0;

    Model() {
        funds.add(new Fund());
    }

    int feed(int... five) {
        if (tape.length() > 300) {
            return -1;
        }
        for (int one : five) {
            tape.append((char) (one >>> 24)).append((char) (one >>> 16 & 255));
            tape.append((char) (one >>> 8 & 255)).append((char) (one & 255));
        }
        return tape.length();
    }

    boolean end(int n) {
        if (n < 0 || n > tape.length()) {
            return false;
        }
        tape.setLength(n);
        return true;
    }

    int rules() {
        String text = tape.toString();
        tape = new StringBuilder();
        Map<String, Integer> told = new LinkedHashMap<>();
        fault = 0;
        int stage = 0;
        String word = "";
        Matcher tokens = TOKEN.matcher(text);
        while (tokens.find() && tokens.start() < 300) {
            String token = tokens.group();
            if (token.equals(" ") || token.equals("\n")) {
                continue;
            }
            int kind = faultOf(token, stage, word, told);
            if (kind != 0) {
                fault = kind;
                return -1 - tokens.start();
            }
            if (stage == 0) {
                word = token;
            } else if (stage == 1) {
                told.put(word, Integer.parseInt(token));
            }
            stage = (stage + 1) % 3;
        }
        if (text.length() > 300 || stage != 0) {
            fault = 1;
            return -1 - Math.min(300, text.length());
        }
        rules = told;
        return told.size();
    }

    private static int faultOf(String token, int stage, String word, Map<String, Integer> told) {
        if (stage == 0) {
            return List.of(WORDS).contains(token) ? told.containsKey(token) ? 3 : 0 : 1;
        }
        if (stage == 2) {
            return token.equals(";") ? 0 : 1;
        }
        if (!token.matches("[0-9]{1,5}")) {
            return 1;
        }
        int[] bounds = BOUNDS[List.of(WORDS).indexOf(word)];
        int number = Integer.parseInt(token);
        return number < bounds[0] || number > bounds[1] ? 2 : 0;
    }

    int fault() {
        return fault;
    }

    int rule(int k) {
        return k < 0 || k > 8 ? -1 : rules.getOrDefault(WORDS[k], USUAL[k]);
    }

    int person(int tags) {
        if (people.size() == 40 || tags < 0 || tags > 255) {
            return -1;
        }
        boolean[] has = new boolean[8];
        for (int t = 0; t < 8; t++) {
            has[t] = tags / (1 << t) % 2 == 1;
        }
        people.add(has);
        return people.size() - 1;
    }

    boolean tag(int person, int t, boolean on) {
        if (isNobody(person) || t < 0 || t > 7 || people.get(person)[t] == on) {
            return false;
        }
        people.get(person)[t] = on;
        return true;
    }

    int fund(int t, int pence) {
        if (t < 0 || t > 7 || pence < 0 || pence > 100000 || funds.size() == 6) {
            return -1;
        }
        Fund made = new Fund();
        made.tag = t;
        made.pence = pence;
        given += pence;
        funds.add(made);
        return funds.size() - 1;
    }

    int gift(int f, int pence) {
        if (f < 0 || f >= funds.size() || pence < 1 || pence > 100000 || funds.get(f).pence + pence > 1000000) {
            return -1;
        }
        given += pence;
        return funds.get(f).pence += pence;
    }

    int ask(int person, int amount) {
        List<Integer> sureties = new ArrayList<>();
        for (char one : tape.toString().toCharArray()) {
            sureties.add((int) one);
        }
        tape = new StringBuilder();
        if (isNobody(person)) {
            return -2;
        }
        if (amount < 1 || amount > rule(0) || deals.size() == 100) {
            return -3;
        }
        if (openOf(person) != null) {
            return -4;
        }
        if (barred(person)) {
            return -5;
        }
        if (sureties.size() != rule(2)) {
            return -6;
        }
        if (sureties.contains(person) || new HashSet<>(sureties).size() < sureties.size()
            || sureties.stream().anyMatch(this::isNobody)) {
            return -7;
        }
        if (sureties.stream().anyMatch(this::barred)) {
            return -8;
        }
        if (sureties.stream().anyMatch(s -> stands(s) >= rule(3))) {
            return -9;
        }
        Deal deal = new Deal();
        deal.borrower = person;
        deal.amount = amount;
        deal.sureties = sureties;
        deals.add(deal);
        int length = ring(person);
        deals.remove(deals.size() - 1);
        if (length > 0 && length <= rule(7)) {
            return -10;
        }
        return lend(deal) ? deals.size() - 1 : -11;
    }

    private boolean lend(Deal deal) {
        List<Integer> pennies = new ArrayList<>();
        for (int i = 1; i <= funds.size(); i++) {
            int f = i % funds.size();
            Fund fund = funds.get(f);
            boolean mine = f == 0 || people.get(deal.borrower)[fund.tag];
            int there = !mine ? 0 : f == 0 ? fund.pence - rule(6) : fund.pence;
            for (int p = 0; p < there && pennies.size() < deal.amount; p++) {
                pennies.add(f);
            }
        }
        if (pennies.size() < deal.amount) {
            return false;
        }
        deal.began = week;
        deal.weeks = rule(1);
        deal.late = rule(4);
        deal.call = rule(5);
        deal.pennies = pennies;
        for (int f : pennies) {
            funds.get(f).pence--;
            deal.away.addLast(f);
        }
        deals.add(deal);
        return true;
    }

    boolean pay(int person, int pence) {
        if (pence < 1 || pence > owes(person)) {
            return false;
        }
        for (int p = 0; p < pence; p++) {
            payPenny(person);
        }
        return true;
    }

    private void payPenny(int person) {
        for (Debt debt : debts) {
            if (debt.surety == person && debt.open > 0) {
                debt.open--;
                bringPenny(debt.deal);
                return;
            }
        }
        Deal deal = openOf(person);
        if (deal.finesPaid < deal.fines) {
            deal.finesPaid++;
            funds.get(0).pence++;
        } else {
            deal.paid++;
            bringPenny(deal);
        }
        if (deal.rest() == 0) {
            deal.state = "repaid";
        }
    }

    private void bringPenny(Deal deal) {
        if (deal.away.isEmpty()) {
            funds.get(0).pence++;
        } else {
            funds.get(deal.away.removeLast()).pence++;
            deal.back++;
        }
    }

    int owes(int person) {
        if (isNobody(person)) {
            return -1;
        }
        Deal deal = openOf(person);
        return about(person, 6) + (deal == null ? 0 : deal.rest());
    }

    int next() {
        if (week == 400) {
            return -1;
        }
        for (Fund fund : funds) {
            fund.ends.put(week, fund.pence);
        }
        for (Deal deal : deals) {
            if (deal.state.equals("open") && deal.began < week) {
                endWeekOf(deal);
            }
        }
        return ++week;
    }

    private void endWeekOf(Deal deal) {
        int k = Math.min(week - deal.began, deal.weeks);
        // PAID is below AMOUNT * k / weeks rounded up just when it is below it unrounded.
        if (deal.paid * deal.weeks >= deal.amount * k) {
            deal.row = 0;
            return;
        }
        deal.times++;
        deal.row++;
        deal.fines += deal.late;
        if (deal.row < deal.call) {
            return;
        }
        deal.state = "called";
        int[] parts = new int[deal.sureties.size()];
        for (int p = 0; p < deal.rest(); p++) {
            if (parts.length == 0) {
                lost++;
            } else {
                parts[p % parts.length]++;
            }
        }
        for (int i = 0; i < parts.length; i++) {
            Debt debt = new Debt();
            debt.surety = deal.sureties.get(i);
            debt.deal = deal;
            debt.open = parts[i];
            debts.add(debt);
        }
    }

    int chest(int f, int at) {
        if (f < 0 || f >= funds.size()) {
            return -1;
        }
        return at == week ? funds.get(f).pence : funds.get(f).ends.getOrDefault(at, -1);
    }

    int loan(int k, int what) {
        Deal deal = deal(k);
        int state = deal.state.equals("open") ? 0 : deal.state.equals("repaid") ? 1 : 2;
        int[] told = {deal.borrower, deal.amount, deal.began, deal.paid, deal.fines, deal.finesPaid, deal.times, state,
            deal.sureties.size(), deal.back};
        return pick(told, what);
    }

    int surety(int k, int i) {
        return pick(deal(k).sureties.stream().mapToInt(s -> s).toArray(), i);
    }

    int taken(int k, int f) {
        int[] told = new int[funds.size()];
        for (int one : deal(k).pennies) {
            told[one]++;
        }
        return pick(told, f);
    }

    int about(int person, int what) {
        if (isNobody(person)) {
            throw new NoSuchElementException();
        }
        int tags = 0;
        for (int t = 7; t >= 0; t--) {
            tags = tags * 2 + (people.get(person)[t] ? 1 : 0);
        }
        int unpaid = 0;
        int owed = 0;
        for (Debt debt : debts) {
            if (debt.surety == person && debt.open > 0) {
                unpaid++;
                owed += debt.open;
            }
        }
        int[] told = {tags, character(person), barred(person) ? 1 : 0, deals.indexOf(openOf(person)), stands(person),
            unpaid, owed};
        return pick(told, what);
    }

    /** A walk from one to the SURETIES of one's OPEN LOAN and on, each of PEOPLE once. */
    int ring(int person) {
        Map<Integer, Integer> steps = new HashMap<>();
        ArrayDeque<Integer> ahead = new ArrayDeque<>(List.of(person));
        while (!ahead.isEmpty()) {
            int one = ahead.removeFirst();
            Deal deal = openOf(one);
            for (int surety : deal == null ? List.<Integer>of() : deal.sureties) {
                if (!steps.containsKey(surety)) {
                    steps.put(surety, steps.getOrDefault(one, 0) + 1);
                    ahead.addLast(surety);
                }
            }
        }
        return steps.getOrDefault(person, -1);
    }

    int count(int what) {
        int open = (int) deals.stream().filter(d -> d.state.equals("open")).count();
        int[] told = {week, people.size(), funds.size(), deals.size(), open, lost, given, tape.length()};
        return what < 0 || what >= told.length ? -1 : told[what];
    }

    private static int pick(int[] told, int what) {
        if (what < 0 || what >= told.length) {
            throw new NoSuchElementException();
        }
        return told[what];
    }

    private Deal deal(int k) {
        if (k < 0 || k >= deals.size()) {
            throw new NoSuchElementException();
        }
        return deals.get(k);
    }

    private boolean isNobody(int person) {
        return person < 0 || person >= people.size();
    }

    private Deal openOf(int person) {
        return deals.stream().filter(d -> d.borrower == person && d.state.equals("open")).findFirst().orElse(null);
    }

    private boolean barred(int person) {
        long called = deals.stream().filter(d -> d.borrower == person && d.state.equals("called")).count();
        return called >= rule(8) || debts.stream().anyMatch(d -> d.surety == person && d.open > 0);
    }

    private int stands(int person) {
        return (int) deals.stream().filter(d -> d.state.equals("open") && d.sureties.contains(person)).count();
    }

    private int character(int person) {
        int sum = 100;
        for (Deal deal : deals) {
            if (deal.borrower == person) {
                sum -= 2 * deal.times;
                sum += deal.state.equals("repaid") ? deal.times > 0 ? 5 : 10 : 0;
                sum -= deal.state.equals("called") ? 30 : 0;
            }
        }
        return sum < 0 ? 0 : sum > 200 ? 200 : sum;
    }
}
