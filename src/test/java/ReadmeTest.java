import java.lang.reflect.Method;
import java.lang.reflect.Modifier;
import java.nio.file.Files;
import java.nio.file.Path;
import java.util.ArrayList;
import java.util.List;
import java.util.regex.Matcher;
import java.util.regex.Pattern;
import javax.tools.ToolProvider;

/** That what README.md says holds: its lines of Java answer what stands behind them, its tables tell what is so. */
public final class ReadmeTest {
    private static final Pattern LINE = Pattern.compile("(int \\w+ = )?(.*);\\s*// (-?\\d+|true|false)");
    private static final Pattern RULE =
        Pattern.compile("\\| (\\d) \\| ([a-z]+) \\| (\\d+) \\| (\\d+) \\| (\\d+) \\|");

    public static void main(String[] args) throws Exception {
        List<String> page = Files.readAllLines(Path.of("README.md"));
        tryLines(page);
        tryRules(page);
        tryCalls(page);
        Check.finish();
    }

    /** Each line with an answer behind it is turned into a check of that answer; then all of them are run. */
    private static void tryLines(List<String> page) throws Exception {
        StringBuilder made = new StringBuilder("import java.nio.*; import java.nio.charset.*; import java.util.*;\n"
            + "public class ReadmeLines { public static void main(String[] args) {\n");
        boolean inside = false;
        int answers = 0;
        for (String line : page) {
            if (line.startsWith("```")) {
                inside = line.equals("```java");
            } else if (inside) {
                Matcher found = LINE.matcher(line);
                answers += found.matches() ? 1 : 0;
                made.append(found.matches() ? checked(found) : line).append("\n");
            }
        }
        Check.yes("README has lines with answers", answers > 15);
        Path place = Files.createDirectories(Path.of("build", "readme"));
        Path file = Files.writeString(place.resolve("ReadmeLines.java"), made.append("} }\n"));
        String path = System.getProperty("java.class.path");
        int code = ToolProvider.getSystemJavaCompiler().run(null, null, null, "-cp", path, "-d", path, file.toString());
        Check.same("javac of README's lines", code, 0);
        if (code == 0) {
            Class.forName("ReadmeLines").getMethod("main", String[].class).invoke(null, (Object) new String[0]);
        }
    }

    private static String checked(Matcher line) {
        String due = line.group(3);
        String name = "\"README: " + line.group(2) + "\"";
        if (line.group(1) != null) {
            String variable = line.group(1).split(" ")[1];
            return line.group(1) + line.group(2) + "; Check.same(" + name + ", " + variable + ", " + due + ");";
        }
        if (due.equals("true") || due.equals("false")) {
            return "Check." + (due.equals("true") ? "yes(" : "no(") + name + ", " + line.group(2) + ");";
        }
        return "Check.same(" + name + ", " + line.group(2) + ", " + due + ");";
    }

    private static void tryRules(List<String> page) {
        int rows = 0;
        for (String line : page) {
            Matcher found = RULE.matcher(line);
            if (found.matches()) {
                rows++;
                tryRule(Integer.parseInt(found.group(1)), found.group(2), Integer.parseInt(found.group(3)),
                    Integer.parseInt(found.group(4)), Integer.parseInt(found.group(5)));
            }
        }
        Check.same("RULES in README", rows, 9);
    }

    private static void tryRule(int k, String word, int from, int to, int without) {
        LoanChest chest = new LoanChest();
        Check.same("README: " + word + " without it", chest.rule(k), without);
        for (int value : new int[] {from, to}) {
            Check.same("README: rules() of " + word + " " + value, Check.rules(chest, word + " " + value + ";"), 1);
            Check.same("README: rule(" + k + ") of " + word, chest.rule(k), value);
        }
        List<Integer> outside = new ArrayList<>(from > 0 ? List.of(from - 1) : List.of());
        // One more than the highest NUMBER of five digits is no NUMBER at all.
        outside.add(to + 1);
        for (int value : outside) {
            Check.rules(chest, word + " " + value + ";");
            Check.same("README: fault() of " + word + " " + value, chest.fault(), value > 99999 ? 1 : 2);
        }
    }

    /** Each call of the face has one row that begins with its name and as many parameters as it has. */
    private static void tryCalls(List<String> page) {
        for (Method method : LoanChest.class.getDeclaredMethods()) {
            if (Modifier.isPublic(method.getModifiers())) {
                int rows = 0;
                for (String line : page) {
                    Matcher found = Pattern.compile("\\| `(\\w+)\\((.*?)\\)` \\|.*").matcher(line);
                    boolean isIt = found.matches() && found.group(1).equals(method.getName());
                    rows += isIt && parameters(found.group(2)) == method.getParameterCount() ? 1 : 0;
                }
                Check.same("rows for " + method.getName() + " in README", rows, 1);
            }
        }
    }

    private static int parameters(String written) {
        return written.isEmpty() ? 0 : written.split(", ").length;
    }
}
