import java.io.IOException;
import java.lang.reflect.InvocationTargetException;
import java.lang.reflect.Method;
import java.lang.reflect.Modifier;
import java.nio.file.Files;
import java.nio.file.Path;
import java.util.Set;
import java.util.TreeSet;
import java.util.regex.Matcher;
import java.util.regex.Pattern;

/** The examples of README.md answer what stands behind them, and leave no call of the face out. */
public final class ReadmeTest {
    private static final Due due = new Due("ReadmeTest");
    private static final Pattern EXAMPLE = Pattern.compile("```java\n(MeanTown .*?)```", Pattern.DOTALL);
    private static final Pattern CALL = Pattern.compile("x\\.(\\w+)\\(([^)]*)\\); +// (-?\\d+)(: .*)?");
    /** What is typed, told behind the answer. */
    private static final Pattern TYPED = Pattern.compile(": \"(.*)\"");

    public static void main(String[] args) throws IOException, ReflectiveOperationException {
        String readme = Files.readString(Path.of(System.getProperty("project", "."), "README.md"));
        Set<String> shown = new TreeSet<>();
        Matcher example = EXAMPLE.matcher(readme);
        while (example.find()) {
            run(example.group(1), shown);
        }
        due.holds("each call has an example: " + shown, shown.equals(face()));
        due.end();
    }

    private static Set<String> face() {
        Set<String> names = new TreeSet<>();
        for (Method m : MeanTown.class.getDeclaredMethods()) {
            if (Modifier.isPublic(m.getModifiers())) {
                names.add(m.getName());
            }
        }
        return names;
    }

    private static void run(String lines, Set<String> shown) throws ReflectiveOperationException {
        MeanTown x = null;
        for (String line : lines.split("\n")) {
            if (line.equals("MeanTown x = new MeanTown();")) {
                x = new MeanTown();
                continue;
            }
            Matcher call = CALL.matcher(line);
            boolean isCall = call.matches();
            due.holds("a call with its answer: " + line, isCall);
            if (isCall) {
                due.is(line, answer(x, call.group(1), call.group(2)), Long.parseLong(call.group(3)));
                shown.add(call.group(1));
                looksTyped(call);
            }
        }
    }

    private static void looksTyped(Matcher call) {
        Matcher typed = TYPED.matcher(call.group(4) == null ? "" : call.group(4));
        if (call.group(1).equals("type") && typed.matches()) {
            String[] given = call.group(2).split(", ");
            due.is("the bytes of " + typed.group(1), number(given[0]), Due.packed(typed.group(1)));
            due.is("how many these are", number(given[1]), typed.group(1).length());
        }
    }

    private static long number(String text) {
        return Long.decode(text.endsWith("L") ? text.substring(0, text.length() - 1) : text);
    }

    private static long answer(MeanTown x, String name, String list) throws ReflectiveOperationException {
        String[] texts = list.isEmpty() ? new String[0] : list.split(", ");
        for (Method m : MeanTown.class.getMethods()) {
            if (m.getName().equals(name) && m.getParameterCount() == texts.length) {
                return ((Number) m.invoke(x, given(m.getParameterTypes(), texts))).longValue();
            }
        }
        throw new InvocationTargetException(null, "no call " + name + " of " + texts.length);
    }

    private static Object[] given(Class<?>[] types, String[] texts) {
        Object[] values = new Object[texts.length];
        for (int k = 0; k < texts.length; k++) {
            long v = number(texts[k]);
            // not by ?:, which would make a long of both
            if (types[k] == long.class) {
                values[k] = v;
            } else {
                values[k] = Math.toIntExact(v);
            }
        }
        return values;
    }
}
