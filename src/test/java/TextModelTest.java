import java.util.Random;

/** Promises 4, 5 and 6: many texts, right and wrong ones, the same each time, read by LoanChest and by Model. */
public final class TextModelTest {
    private static final int CHESTS = 3000;
    /** A text of 320 bytes needs 30 calls with all that is looked at: an object is used for no more than 512. */
    private static final int TEXTS_OF_A_CHEST = 16;
    private static final String[] ODD = {"a", "mostly", "mos", "Most", "9", "12345", "99999", "100000", "000001", "1a",
        "a1", "?", "-1", ",", "\t", "\r", "\u00ff", "\u0000", ";;", "most", "ring", "{", "`", "/", ":", "\u00b0"};

    private final Random random;
    private final int[] reached;
    private final LoanChest chest = new LoanChest();
    private final Model model = new Model();

    private TextModelTest(int run, int[] reached) {
        this.random = new Random(run);
        this.reached = reached;
    }

    public static void main(String[] args) {
        int[] reached = new int[6];
        for (int run = 0; run < CHESTS; run++) {
            TextModelTest one = new TextModelTest(run, reached);
            for (int i = 0; i < TEXTS_OF_A_CHEST; i++) {
                one.read(one.someText());
            }
        }
        // The texts are worth something only if each kind of FAULT comes often, those at 300 and at the end too.
        for (int i = 0; i < reached.length; i++) {
            Check.yes("how often " + i + " was reached: " + reached[i], reached[i] > CHESTS / 5);
        }
        Check.finish();
    }

    private void read(String text) {
        Check.text(chest, text);
        model.end(0);
        for (int i = 0; i < text.length(); i += 20) {
            int[] five = new int[5];
            for (int j = 0; j < 20; j++) {
                five[j / 4] = five[j / 4] << 8 | (i + j < text.length() ? text.charAt(i + j) : 0);
            }
            model.feed(five);
        }
        model.end(text.length());
        int due = model.rules();
        Check.same("rules() of '" + text + "'", chest.rules(), due);
        Check.same("fault() of '" + text + "'", chest.fault(), model.fault());
        for (int k = 0; k < 9; k++) {
            Check.same("rule(" + k + ") behind '" + text + "'", chest.rule(k), model.rule(k));
        }
        Check.same("tape behind '" + text + "'", chest.count(7), 0);
        reached[model.fault()]++;
        reached[4] += due == -301 && text.length() > 300 ? 1 : 0;
        reached[5] += due == -1 - text.length() ? 1 : 0;
    }

    private String someText() {
        StringBuilder made = new StringBuilder();
        int start = random.nextInt(9);
        int howMany = random.nextInt(11);
        boolean isLong = random.nextInt(3) == 0;
        for (int i = 0; i < howMany; i++) {
            // Behind one another the WORDS do not come twice, but for one now and then.
            int kind = random.nextInt(12) == 0 ? random.nextInt(9) : (start + i * 2) % 9;
            made.append(gap(isLong)).append(odd(Model.WORDS[kind])).append(gap(false)).append(" ");
            made.append(odd(someNumber())).append(gap(isLong)).append(odd(";"));
        }
        if (isLong) {
            made.append(" ".repeat(Math.max(0, 285 + random.nextInt(36) - made.length())));
            made.append(random.nextBoolean() ? "" : "keep 777;");
        }
        if (random.nextInt(4) == 0 && made.length() > 0) {
            made.setLength(random.nextInt(made.length() + 1));
        }
        made.setLength(Math.min(320, made.length()));
        return made.toString();
    }

    private String someNumber() {
        int most = random.nextInt(3) > 0 ? 4 : random.nextBoolean() ? 70 : 100001;
        return Integer.toString(random.nextInt(most));
    }

    private String odd(String usual) {
        return random.nextInt(60) == 0 ? ODD[random.nextInt(ODD.length)] : usual;
    }

    private String gap(boolean isLong) {
        String made = " ".repeat(random.nextInt(isLong ? 16 : 3));
        return random.nextInt(3) == 0 ? made + "\n" : made;
    }
}
