import java.lang.reflect.Method;
import java.lang.reflect.Modifier;
import java.nio.file.Files;
import java.nio.file.Path;
import java.util.List;
import java.util.regex.Matcher;
import java.util.regex.Pattern;

/** README.md's lines of code, read from it and called one after the other, answer what stands behind them. */
public final class ReadmeTest {
    private static final Pattern LINE = Pattern.compile("(?:int d = )?x\\.(\\w+)\\((.*)\\);\\s+// (-?\\d+)(?::.*)?");
    private static final String FIRST = "TideDials x = new TideDials();";

    private static int wrong = 0;
    private static int called = 0;

    private static Method methodOf(String name) {
        for (Method m : TideDials.class.getMethods()) {
            if (m.getName().equals(name)) {
                return m;
            }
        }
        throw new IllegalArgumentException("README.md calls " + name + ", which the class has not");
    }

    private static Object argument(String word, Class<?> type) {
        if (type == boolean.class) {
            return word.equals("true");
        }
        // The one dial of README.md is dial 0.
        String number = word.equals("d") ? "0" : word;
        return type == long.class ? (Object) Long.valueOf(number) : (Object) Integer.valueOf(number);
    }

    private static void call(TideDials x, String line) throws Exception {
        Matcher parts = LINE.matcher(line);
        if (!parts.matches()) {
            wrong++;
            System.out.println("not a call with its answer: " + line);
            return;
        }
        Method m = methodOf(parts.group(1));
        Class<?>[] types = m.getParameterTypes();
        String[] words = parts.group(2).isEmpty() ? new String[0] : parts.group(2).split(", ");
        Object[] arguments = new Object[words.length];
        for (int k = 0; k < words.length; k++) {
            arguments[k] = argument(words[k], types[k]);
        }
        long got = ((Number) m.invoke(x, arguments)).longValue();
        called++;
        if (got != Long.parseLong(parts.group(3))) {
            wrong++;
            System.out.println("answered " + got + ": " + line);
        }
    }

    private static void mustTell(String text, String word) {
        if (!text.contains(word)) {
            wrong++;
            System.out.println("README.md does not tell of " + word);
        }
    }

    public static void main(String[] args) throws Exception {
        String text = Files.readString(Path.of("README.md"));
        List<String> lines = text.lines().toList();
        int at = lines.indexOf(FIRST) + 1;
        TideDials x = new TideDials();
        while (at > 0 && at < lines.size() && !lines.get(at).equals("```")) {
            call(x, lines.get(at));
            at++;
        }
        for (Method m : TideDials.class.getDeclaredMethods()) {
            if (Modifier.isPublic(m.getModifiers())) {
                mustTell(text, "`" + m.getName() + "`");
            }
        }
        mustTell(text, ".ci/run");
        if (called == 0) {
            wrong++;
            System.out.println("README.md has no calls");
        }
        System.out.println(wrong == 0 ? "all " + called + " calls answer as README.md tells" : wrong + " are wrong");
        if (wrong != 0) {
            System.exit(1);
        }
    }
}
