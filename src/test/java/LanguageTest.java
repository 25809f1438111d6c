import java.lang.reflect.Executable;
import java.lang.reflect.Field;
import java.lang.reflect.Modifier;
import java.nio.file.Files;
import java.nio.file.Path;
import java.util.ArrayList;
import java.util.List;
import java.util.Set;
import java.util.regex.Matcher;
import java.util.regex.Pattern;

/** LANGUAGE.md, as far as the text of the class and the class itself show it. */
public final class LanguageTest {
    private static final Set<String> IMPORTS =
        Set.of("java.util.ArrayList", "java.util.List", "java.util.Arrays", "java.util.NoSuchElementException");
    private static final Set<String> LIBRARY = Set.of("Math.min", "Math.max", "Math.abs", "System.arraycopy",
        "Arrays.copyOf", "Arrays.copyOfRange", "Arrays.fill");
    private static final String[] RULED_OUT = {"->", "::", "synchronized", "assert ", "finally", "try ", "catch",
        "static \\{", "Exact\\(", "native ", "volatile ", "transient ", "package ", "var ", "hashCode", "toString",
        "getClass", "Object ", "double", "float", "new Thread", "protected "};
    private static final int MOST_LINES = 60;

    public static void main(String[] args) throws Exception {
        List<String> lines = Files.readAllLines(Path.of("src/main/java/LoanChest.java"));
        String code = String.join("\n", lines).replaceAll("(?s)/\\*.*?\\*/", "").replaceAll("//[^\n]*", "");
        String plain = code.replaceAll("\"[^\"\n]*\"", "\"\"");
        for (String sign : RULED_OUT) {
            Check.no("'" + sign + "' in the class", Pattern.compile(sign).matcher(plain).find());
        }
        each(plain, "import ([\\w.]+);", IMPORTS);
        each(plain, "\\b((?:Math|System|Arrays|Integer|Long)\\.\\w+)", LIBRARY);
        each(plain, "throw (new \\w+)", Set.of("new NoSuchElementException"));
        each(plain, "throws (\\w+)", Set.of("NoSuchElementException"));
        Check.yes("signs 1 to 127 alone", String.join("\n", lines).matches("[\\n -~]*"));
        lengths(lines);
        classes();
        Check.finish();
    }

    private static void each(String code, String form, Set<String> allowed) {
        Matcher found = Pattern.compile(form).matcher(code);
        while (found.find()) {
            Check.yes(found.group(1) + " is allowed", allowed.contains(found.group(1)));
        }
    }

    /** A method begins where a line of a class's depth opens a brace, and ends with the next } of that depth. */
    private static void lengths(List<String> lines) {
        for (String depth : new String[] {"    ", "        "}) {
            int start = -1;
            for (int i = 0; i < lines.size(); i++) {
                String line = lines.get(i);
                boolean isMethod = line.matches(depth + "[\\w<>\\[\\] ]+\\(.*\\)( throws \\w+)? \\{");
                start = isMethod && !line.matches(" *(if|for|while|switch) .*") ? i : start;
                if (line.equals(depth + "}") && start >= 0) {
                    Check.yes(lines.get(start).trim() + " is short", i - start < MOST_LINES);
                    start = -1;
                }
            }
        }
    }

    private static void classes() {
        List<Class<?>> all = new ArrayList<>(List.of(LoanChest.class.getDeclaredClasses()));
        all.add(LoanChest.class);
        Check.yes("at most twelve classes", all.size() <= 12);
        for (Class<?> one : all) {
            int fields = 0;
            for (Field field : one.getDeclaredFields()) {
                boolean isStatic = Modifier.isStatic(field.getModifiers());
                boolean isFinal = Modifier.isFinal(field.getModifiers());
                Check.yes(one + "." + field.getName() + " is final", !isStatic || isFinal);
                fields += isStatic ? 0 : 1;
            }
            Check.yes("fields of " + one, fields <= 20);
            List<Executable> methods = new ArrayList<>(List.of(one.getDeclaredMethods()));
            methods.addAll(List.of(one.isEnum() ? new Executable[0] : one.getDeclaredConstructors()));
            for (Executable method : methods) {
                Check.yes("parameters of " + method, method.getParameterCount() <= 7);
            }
        }
    }
}
