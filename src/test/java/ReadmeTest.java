import java.io.IOException;
import java.lang.reflect.Method;
import java.nio.file.Files;
import java.nio.file.Path;
import java.util.regex.Matcher;
import java.util.regex.Pattern;

/** Every call told in README.md, in its order and on one object, answers what the page says. */
public final class ReadmeTest {
    private static final Pattern CALL = Pattern.compile("^x\\.(\\w+)\\((.*)\\); *// (-?\\d+)(:.*)?$");
    private static final int LEAST_CALLS = 40;

    private static final Due DUE = new Due();

    public static void main(String[] args) throws IOException, ReflectiveOperationException {
        LeastPays x = new LeastPays();
        int calls = 0;
        for (String line : Files.readAllLines(Path.of(System.getProperty("readme", "README.md")))) {
            Matcher m = CALL.matcher(line);
            if (m.matches()) {
                DUE.is(line, answer(x, m.group(1), m.group(2)), Long.parseLong(m.group(3)));
                calls++;
            } else {
                DUE.holds("a call that can be read: " + line, !line.startsWith("x."));
            }
        }
        DUE.holds("the page shows how the class is used", calls >= LEAST_CALLS);
        DUE.end();
    }

    private static long answer(LeastPays x, String name, String told) throws ReflectiveOperationException {
        String[] words = told.isEmpty() ? new String[0] : told.split(", ");
        for (Method m : LeastPays.class.getMethods()) {
            if (m.getDeclaringClass() == LeastPays.class && m.getName().equals(name)
                    && m.getParameterCount() == words.length) {
                Object[] values = new Object[words.length];
                for (int i = 0; i < words.length; i++) {
                    long v = words[i].startsWith("'") ? words[i].charAt(1) : Long.parseLong(words[i]);
                    values[i] = m.getParameterTypes()[i] == long.class ? (Object) v : (Object) (int) v;
                }
                return ((Number) m.invoke(x, values)).longValue();
            }
        }
        throw new NoSuchMethodException(name + " with " + words.length + " numbers");
    }
}
