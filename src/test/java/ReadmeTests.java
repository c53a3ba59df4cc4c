import java.lang.reflect.InvocationTargetException;
import java.lang.reflect.Method;
import java.lang.reflect.Modifier;
import java.nio.file.Files;
import java.nio.file.Path;
import java.util.regex.Matcher;
import java.util.regex.Pattern;

/** What README.md says of the use of the class is so. */
public final class ReadmeTests {
    private static final Path README = Path.of("README.md");
    private static final Path THIS = Path.of("src/test/java/ReadmeTests.java");
    private static final Pattern BLOCK = Pattern.compile("(?s)```java\n(.*?)```");
    private static final Pattern CALL = Pattern.compile("x\\.(\\w+)\\((.*)\\);(?: +// (-?\\d+)?.*)?");

    public static void main(String[] args) throws Exception {
        Hands hands = new Hands();
        String readme = Files.readString(README);
        Matcher block = BLOCK.matcher(readme);
        hands.due(0, "an example", block.find() ? 1 : 0, 1);
        example(hands, block.group(1));
        hands.due(0, "a helper", block.find() ? 1 : 0, 1);
        hands.due(0, "the helper as it is below", Files.readString(THIS).contains(block.group(1)) ? 1 : 0, 1);
        helper(hands);
        for (Method m : LeastWords.class.getDeclaredMethods()) {
            if (Modifier.isPublic(m.getModifiers())) {
                boolean listed = readme.contains("`" + m.getName() + "`");
                hands.due(0, m.getName() + " in the list of calls", listed ? 1 : 0, 1);
            }
        }
        hands.end();
    }

    private static void example(Hands hands, String lines) throws Exception {
        LeastWords x = new LeastWords();
        int calls = 0;
        for (String line : lines.split("\n")) {
            Matcher m = CALL.matcher(line);
            if (!m.matches()) {
                hands.due(0, line, line.equals("LeastWords x = new LeastWords();") ? 1 : 0, 1);
                continue;
            }
            calls++;
            long got = answer(x, m.group(1), m.group(2));
            // a call without an answer has none beside it
            hands.due(0, line, got, m.group(3) == null ? Long.MIN_VALUE : Long.parseLong(m.group(3)));
        }
        hands.due(0, "calls of the example", calls > 30 ? 1 : 0, 1);
    }

    /** What a call answers; Long.MIN_VALUE if it answers nothing. */
    private static long answer(LeastWords x, String name, String given) throws Exception {
        for (Method m : LeastWords.class.getMethods()) {
            if (m.getName().equals(name) && m.getDeclaringClass() == LeastWords.class) {
                Class<?>[] types = m.getParameterTypes();
                String[] texts = given.isEmpty() ? new String[0] : given.split(", ");
                Object[] values = new Object[types.length];
                for (int i = 0; i < types.length; i++) {
                    values[i] = value(types[i], texts[i]);
                }
                return number(called(m, x, values));
            }
        }
        throw new IllegalArgumentException("no such call: " + name);
    }

    private static Object called(Method m, LeastWords x, Object[] values) throws Exception {
        try {
            return m.invoke(x, values);
        } catch (InvocationTargetException e) {
            throw new IllegalStateException(m.getName() + " of the example throws", e.getCause());
        }
    }

    private static Object value(Class<?> type, String text) {
        if (type == boolean.class) {
            return Boolean.valueOf(text);
        }
        long number = Long.decode(text);
        if (type == long.class) {
            return number;
        }
        return (int) number;
    }

    private static long number(Object answer) {
        if (answer instanceof Boolean) {
            return (Boolean) answer ? 1 : 0;
        }
        return answer == null ? Long.MIN_VALUE : ((Number) answer).longValue();
    }

    private static void helper(Hands hands) {
        StringBuilder text = new StringBuilder("marks 1;");
        for (int w = 0; w < 10; w++) {
            LeastWords x = new LeastWords();
            hands.due(0, "a text of " + text.length() + " bytes", open(x, text.toString()), w + 1);
            hands.due(0, "words of it", x.count(4), w);
            text.append("word:m 0=").append(w).append(";");
        }
        hands.due(0, "a fault", open(new LeastWords(), "marks 7;"), -13);
    }

    static int open(LeastWords x, String text) {
        int[] a = new int[5];
        for (int from = 0; from < text.length(); from += 20) {
            for (int i = 0; i < 20; i++) {
                int sign = from + i < text.length() ? text.charAt(from + i) : ' ';
                a[i / 4] = a[i / 4] << 8 | sign & 255;
            }
            x.feed(a[0], a[1], a[2], a[3], a[4]);
        }
        return x.hall(text.length());
    }
}
