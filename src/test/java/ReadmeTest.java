import java.lang.reflect.Method;
import java.lang.reflect.Modifier;
import java.nio.file.Files;
import java.nio.file.Path;
import java.util.ArrayList;
import java.util.List;
import java.util.regex.Matcher;
import java.util.regex.Pattern;

/** README.md: its example, call by call, answers what stands behind it, and no call is left unnamed. */
public final class ReadmeTest {
    private static final Due DUE = new Due("ReadmeTest");
    private static final Pattern TEXT = Pattern.compile("String text = \"([^\"]*)\";");
    private static final Pattern CALL = Pattern.compile("(?m)^x\\.(\\w+)\\(([^;]*)\\); +// (-?\\d+):");
    private static final int FEWEST_CALLS = 10;

    public static void main(String[] args) throws Exception {
        String page = Files.readString(Path.of("README.md"));
        example(between(page, "```java\n", "```"));
        everyCallIsNamed(page);
        DUE.end();
    }

    private static String between(String page, String from, String to) {
        int start = page.indexOf(from);
        int end = page.indexOf(to, start + from.length());
        DUE.isTrue("README.md has " + from.strip(), start >= 0 && end >= 0);
        return start >= 0 && end >= 0 ? page.substring(start + from.length(), end) : "";
    }

    private static void example(String code) throws Exception {
        Matcher told = TEXT.matcher(code);
        String text = told.find() ? told.group(1) : "";
        SilkWord x = new SilkWord();
        Matcher call = CALL.matcher(code);
        int calls = 0;
        while (call.find()) {
            List<Integer> numbers = numbers(call.group(2), text);
            DUE.is(call.group(), answer(x, call.group(1), numbers), Long.parseLong(call.group(3)));
            calls++;
            // The example's loop stands behind its first call.
            for (int i = 0; calls == 1 && i < text.length(); i++) {
                x.put(0, i, text.charAt(i));
            }
        }
        DUE.isTrue("the example has calls with answers: " + calls, calls >= FEWEST_CALLS);
        DUE.is("lines of the example with a call and no answer (the loop's)", unanswered(code), 1);
    }

    private static List<Integer> numbers(String given, String text) {
        List<Integer> numbers = new ArrayList<>();
        for (String one : given.split(", ")) {
            if (!one.isEmpty()) {
                numbers.add(one.equals("text.length()") ? text.length() : Integer.parseInt(one));
            }
        }
        return numbers;
    }

    private static long answer(SilkWord x, String name, List<Integer> numbers) throws Exception {
        for (Method method : SilkWord.class.getMethods()) {
            if (method.getName().equals(name) && method.getDeclaringClass() == SilkWord.class) {
                return ((Number) method.invoke(x, numbers.toArray())).longValue();
            }
        }
        throw new IllegalStateException("README.md calls what is not there: " + name);
    }

    private static long unanswered(String code) {
        return code.lines().filter(line -> line.strip().startsWith("x.") && !CALL.matcher(line).find()).count();
    }

    private static void everyCallIsNamed(String page) {
        for (Method method : SilkWord.class.getDeclaredMethods()) {
            if (Modifier.isPublic(method.getModifiers())) {
                DUE.isTrue("README.md names " + method.getName(), page.contains("`" + method.getName() + "`"));
            }
        }
    }
}
