import java.io.IOException;
import java.lang.reflect.InvocationTargetException;
import java.lang.reflect.Method;
import java.nio.file.Files;
import java.nio.file.Path;
import java.util.Arrays;
import java.util.Set;
import java.util.TreeSet;
import java.util.regex.Matcher;
import java.util.regex.Pattern;

/** The example in README.md answers, line by line, what is written behind the line. */
public final class ReadmeTest extends DeskTest {
    private static final Pattern LINE = Pattern.compile("desk\\.(\\w+)\\(([-\\d, ]+)\\);\\s+// ([-\\w]+)(:.*)?");

    private final ShareDesk desk = new ShareDesk();
    private final Set<String> called = new TreeSet<>();

    private static Method named(String name) {
        return Arrays.stream(ShareDesk.class.getDeclaredMethods())
                .filter(method -> method.getName().equals(name)).findFirst().orElseThrow();
    }

    private String answer(String name, String arguments) {
        Object[] numbers = Arrays.stream(arguments.split(", ")).map(Integer::valueOf).toArray();
        try {
            Object answer = named(name).invoke(desk, numbers);
            return answer == null ? "nothing" : answer.toString();
        } catch (InvocationTargetException e) {
            return e.getCause().getClass().getSimpleName();
        } catch (IllegalAccessException e) {
            return "no access";
        }
    }

    private void carryOut(String line) {
        Matcher call = LINE.matcher(line);
        if (call.matches()) {
            called.add(call.group(1));
            same(call.group(1) + "(" + call.group(2) + ")", call.group(3), answer(call.group(1), call.group(2)));
        } else if (line.startsWith("desk.")) {
            same(line, "a call and its answer", "a line that can not be read");
        }
    }

    public static void main(String[] args) throws IOException {
        sentence("README.md");
        ReadmeTest test = new ReadmeTest();
        for (String line : Files.readAllLines(Path.of("README.md"))) {
            test.carryOut(line);
        }
        same("all calls", "[begin, count, least, next, over, share, weight]", test.called.toString());
        end();
    }
}
