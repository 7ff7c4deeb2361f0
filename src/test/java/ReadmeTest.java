import java.io.IOException;
import java.lang.reflect.InvocationTargetException;
import java.lang.reflect.Method;
import java.nio.file.Files;
import java.nio.file.Path;
import java.util.regex.Matcher;
import java.util.regex.Pattern;

/** Each call in README.md's examples answers the number that stands behind it. */
public final class ReadmeTest {
    private static final Pattern CALL = Pattern.compile("house\\.(\\w+)\\((.*)\\); +// (-?\\d+)(:.*)?");

    private static BubbleHouse house = new BubbleHouse();
    private static int calls = 0;
    private static int wrong = 0;

    public static void main(String[] args) throws IOException, IllegalAccessException, InvocationTargetException {
        for (String row : Files.readAllLines(Path.of("README.md"))) {
            if (row.startsWith("BubbleHouse house = new BubbleHouse();")) {
                house = new BubbleHouse();
            } else if (row.startsWith("house.")) {
                run(row);
            }
        }
        if (calls == 0) {
            wrong++;
            System.out.println("README.md has no example");
        }
        System.out.println("ReadmeTest: " + calls + " calls, " + wrong + " wrong");
        if (wrong != 0) {
            System.exit(1);
        }
    }

    private static void run(String row) throws IllegalAccessException, InvocationTargetException {
        calls++;
        Matcher parts = CALL.matcher(row);
        if (!parts.matches()) {
            wrong++;
            System.out.println("no call with an answer: " + row);
            return;
        }
        long answer = answer(parts.group(1), parts.group(2));
        if (answer != Long.parseLong(parts.group(3))) {
            wrong++;
            System.out.println("answered " + answer + ": " + row);
        }
    }

    private static long answer(String name, String list) throws IllegalAccessException, InvocationTargetException {
        String[] texts = list.isEmpty() ? new String[0] : list.split(", ");
        Object[] numbers = new Object[texts.length];
        for (int i = 0; i < texts.length; i++) {
            numbers[i] = texts[i].startsWith("'") ? texts[i].charAt(1) : Integer.parseInt(texts[i]);
        }
        for (Method m : BubbleHouse.class.getDeclaredMethods()) {
            if (m.getName().equals(name) && m.getParameterCount() == numbers.length) {
                return ((Number) m.invoke(house, numbers)).longValue();
            }
        }
        throw new IllegalArgumentException("no such call: " + name);
    }
}
