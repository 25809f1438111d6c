import java.util.ArrayList;
import java.util.Collections;
import java.util.List;
import java.util.Random;

/** Long runs of calls, the same ones each time, on LoanChest and on Model: every answer must be the same. */
public final class ModelTest {
    private static final int RUNS = 2500;
    /** All that an object is used for; the last of them are kept for looks at what the others left. */
    private static final int CALLS = 512;
    private static final int LOOKS = 120;
    /** Among what was reached: 0 LOANS made, 2 to 11 those REFUSED, 12 RINGS, then LOANS REPAID and CALLED. */
    private static final int RINGS = 12;
    private static final int REPAID_OR_CALLED = RINGS;
    private static final int[] ODD = {-1, -2, 40, 41, 63, 64, 100, 255, 256, 400, 401, Integer.MAX_VALUE,
        Integer.MIN_VALUE};
    private static final String[] TEXTS = {
        "sureties 1;weeks 2;late 3;call 2;stands 9;ring 0;most 60;bar 9;",
        "sureties 2;weeks 3;late 1;call 1;stands 9;ring 3;keep 40;bar 9;",
        "sureties 0;weeks 1;late 0;call 1;bar 2;",
        "sureties 3;weeks 7;late 9;call 3;stands 4;ring 4;most 300;bar 5;",
        "sureties 1;weeks 4;late 2;call 3;stands 3;ring 9;bar 4;",
        ""
    };

    private final Random random;
    private final LoanChest chest = new LoanChest();
    private final Model model = new Model();
    private final int run;
    private final int[] reached;
    private int call = 0;

    private ModelTest(int run, int[] reached) {
        this.run = run;
        this.reached = reached;
        this.random = new Random(run);
    }

    public static void main(String[] args) {
        int[] reached = new int[REPAID_OR_CALLED + 3];
        for (int run = 0; run < RUNS; run++) {
            new ModelTest(run, reached).go();
        }
        // The runs are worth something only if they reach what is to be tried.
        for (int i = 0; i < reached.length; i++) {
            Check.yes("how often " + i + " was reached: " + reached[i], i == 1 || reached[i] > RUNS / 5);
        }
        Check.finish();
    }

    private void tally() {
        for (int k = 0; k < model.count(3); k++) {
            if (model.loan(k, 7) > 0) {
                reached[REPAID_OR_CALLED + model.loan(k, 7)]++;
            }
        }
    }

    private void go() {
        for (int i = 0; i < 3 + random.nextInt(10); i++) {
            person();
        }
        int pence = 40 + random.nextInt(random.nextBoolean() ? 100 : 1000);
        both("gift(0)", chest.gift(0, pence), model.gift(0, pence));
        rulesFrom(TEXTS[random.nextInt(TEXTS.length)]);
        while (call < CALLS - LOOKS) {
            step();
        }
        lookAround();
        tally();
    }

    private void step() {
        int kind = random.nextInt(100);
        if (kind < 30) {
            ask();
        } else if (kind < 57) {
            pay();
        } else if (kind < 70) {
            both("next", chest.next(), model.next());
        } else if (kind < 73) {
            rulesFrom(someText());
        } else if (kind < 75) {
            person();
        } else if (kind < 79) {
            money();
        } else if (kind < 81) {
            tape();
        } else {
            look();
        }
    }

    private void both(String what, long got, long due) {
        call++;
        Check.same("run " + run + ", call " + call + ": " + what, got, due);
    }

    private void bothOrThrow(String what, Check.Call got, Check.Call due) {
        both(what, Check.answerOf(got), Check.answerOf(due));
    }

    private int upTo(int bound) {
        return random.nextInt(40) == 0 ? ODD[random.nextInt(ODD.length)] : random.nextInt(bound + 1);
    }

    private int somebody() {
        return upTo(Math.max(0, model.count(1) - 1));
    }

    private void feedAll(int[] bytes) {
        for (int i = 0; i < bytes.length; i += 20) {
            int[] five = new int[5];
            for (int j = 0; j < 20; j++) {
                five[j / 4] = five[j / 4] << 8 | (i + j < bytes.length ? bytes[i + j] & 255 : 0);
            }
            both("feed", chest.feed(five[0], five[1], five[2], five[3], five[4]), model.feed(five));
        }
        both("end", chest.end(bytes.length) ? 1 : 0, model.end(bytes.length) ? 1 : 0);
    }

    private void person() {
        int tags = upTo(15);
        both("person", chest.person(tags), model.person(tags));
    }

    private void ask() {
        int howMany = random.nextInt(30) == 0 ? random.nextInt(5) : model.rule(2);
        int person = somebody();
        int[] bytes = new int[howMany];
        for (int i = 0; i < howMany; i++) {
            bytes[i] = Math.floorMod(person + 1 + random.nextInt(4) + (i > 0 ? random.nextInt(4) : 0),
                Math.max(1, model.count(1)));
            bytes[i] = random.nextInt(60) == 0 ? upTo(255) & 255 : bytes[i];
        }
        if (random.nextInt(20) > 0) {
            both("end(0)", chest.end(0) ? 1 : 0, model.end(0) ? 1 : 0);
        }
        feedAll(bytes);
        int amount = 1 + upTo(Math.min(120, model.rule(0)));
        int due = model.ask(person, amount);
        both("ask(" + person + ", " + amount + ")", chest.ask(person, amount), due);
        reached[Math.max(0, -due)]++;
        both("ring(" + person + ")", chest.ring(person), model.ring(person));
        reached[RINGS] += model.ring(person) > 0 ? 1 : 0;
    }

    private int somebodyWhoOwes() {
        int person = somebody();
        for (int i = 0; i < 5 && model.owes(person) < 1; i++) {
            person = somebody();
        }
        return person;
    }

    private void pay() {
        int person = somebodyWhoOwes();
        int owed = Math.max(0, model.owes(person));
        int part = 1 + random.nextInt(owed + 1);
        int pence = random.nextInt(4) == 0 ? owed : random.nextInt(3) == 0 ? part : 1 + upTo(part / 4);
        both("pay(" + person + ", " + pence + ")", chest.pay(person, pence) ? 1 : 0, model.pay(person, pence) ? 1 : 0);
        both("owes(" + person + ")", chest.owes(person), model.owes(person));
    }

    private void money() {
        int t = upTo(7);
        int pence = upTo(random.nextInt(40) == 0 ? 100001 : 30);
        int f = upTo(5);
        boolean on = random.nextBoolean();
        int person = somebody();
        both("fund", chest.fund(t, pence), model.fund(t, pence));
        both("gift", chest.gift(f, pence), model.gift(f, pence));
        both("tag", chest.tag(person, t, on) ? 1 : 0, model.tag(person, t, on) ? 1 : 0);
    }

    private void tape() {
        int n = upTo(330);
        int a = random.nextInt();
        both("feed", chest.feed(a, n, ~a, 0, -1), model.feed(a, n, ~a, 0, -1));
        both("end", chest.end(n) ? 1 : 0, model.end(n) ? 1 : 0);
    }

    private String someText() {
        if (random.nextInt(3) > 0) {
            return TEXTS[random.nextInt(TEXTS.length)];
        }
        StringBuilder made = new StringBuilder();
        int parts = random.nextInt(random.nextInt(10) == 0 ? 60 : 6);
        for (int i = 0; i < parts; i++) {
            made.append(Model.WORDS[random.nextInt(9)]).append(" ".repeat(random.nextInt(3)));
            made.append(random.nextInt(4) > 0 ? " " : "\n").append(random.nextInt(4)).append(";");
        }
        if (random.nextInt(4) == 0) {
            made.append(" ".repeat(random.nextInt(320)));
        }
        if (random.nextInt(3) == 0 && made.length() > 0) {
            made.setCharAt(random.nextInt(made.length()), "5x; ?A\n"
                .charAt(random.nextInt(7)));
        }
        made.setLength(Math.min(made.length(), 320));
        return made.toString();
    }

    private void rulesFrom(String text) {
        both("end(0)", chest.end(0) ? 1 : 0, model.end(0) ? 1 : 0);
        int[] bytes = new int[text.length()];
        for (int i = 0; i < bytes.length; i++) {
            bytes[i] = text.charAt(i);
        }
        feedAll(bytes);
        both("rules of '" + text + "'", chest.rules(), model.rules());
        both("fault", chest.fault(), model.fault());
    }

    private void look() {
        int k = upTo(Math.max(0, model.count(3)));
        int p = somebody();
        int w = upTo(Math.max(0, model.count(0)));
        int i = upTo(10);
        switch (random.nextInt(7)) {
            case 0: bothOrThrow("loan(" + k + ", " + i + ")", () -> chest.loan(k, i), () -> model.loan(k, i)); break;
            case 1: bothOrThrow("surety", () -> chest.surety(k, i / 3), () -> model.surety(k, i / 3)); break;
            case 2: bothOrThrow("taken", () -> chest.taken(k, i / 2), () -> model.taken(k, i / 2)); break;
            case 3: bothOrThrow("about(" + p + ", " + i + ")", () -> chest.about(p, i), () -> model.about(p, i)); break;
            case 4: both("ring", chest.ring(p), model.ring(p)); break;
            case 5: both("chest", chest.chest(i / 2, w), model.chest(i / 2, w)); break;
            default: both("count", chest.count(i), model.count(i)); both("rule", chest.rule(i), model.rule(i)); break;
        }
    }

    /** What is left in the end shows a slip whose row was not looked at: other ones of all looks in each run. */
    private void lookAround() {
        List<Runnable> looks = new ArrayList<>();
        addLooksAtLoans(looks);
        addLooksAtPeople(looks);
        for (int f = 0; f < 6; f++) {
            for (int w = 0; w <= model.count(0); w++) {
                int fund = f;
                int week = w;
                looks.add(() -> both("chest(" + fund + ", " + week + ")", chest.chest(fund, week),
                    model.chest(fund, week)));
            }
        }
        for (int i = 0; i < 9; i++) {
            int what = i;
            looks.add(() -> both("count " + what, chest.count(what), model.count(what)));
        }
        Collections.shuffle(looks, random);
        for (int i = 0; i < looks.size() && call < CALLS; i++) {
            looks.get(i).run();
        }
    }

    private void addLooksAtLoans(List<Runnable> looks) {
        for (int k = 0; k < model.count(3); k++) {
            int loan = k;
            for (int i = 0; i < 10; i++) {
                int what = i;
                looks.add(() -> both("loan(" + loan + ", " + what + ")", chest.loan(loan, what),
                    model.loan(loan, what)));
            }
            for (int f = 0; f < model.count(2); f++) {
                int fund = f;
                looks.add(() -> both("taken(" + loan + ", " + fund + ")", chest.taken(loan, fund),
                    model.taken(loan, fund)));
            }
        }
    }

    private void addLooksAtPeople(List<Runnable> looks) {
        for (int p = 0; p < model.count(1); p++) {
            int person = p;
            looks.add(() -> both("ring(" + person + ")", chest.ring(person), model.ring(person)));
            looks.add(() -> both("owes(" + person + ")", chest.owes(person), model.owes(person)));
            for (int i = 0; i < 7; i++) {
                int what = i;
                looks.add(() -> both("about(" + person + ", " + what + ")", chest.about(person, what),
                    model.about(person, what)));
            }
        }
    }
}
