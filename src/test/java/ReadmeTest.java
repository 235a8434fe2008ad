import java.lang.reflect.Method;
import java.nio.file.Files;
import java.nio.file.Path;
import java.util.List;
import java.util.regex.Matcher;
import java.util.regex.Pattern;

/** README.md: the calls of its example answer what stands beside them, and it tells every call and constant. */
public final class ReadmeTest {
    private static final Path README = Path.of("README.md");
    private static final Pattern CALL = Pattern.compile("x\\.(\\w+)\\(([^)]*)\\);\\s*// (.*)");
    private static final Pattern ANSWER = Pattern.compile("(-?\\d+)\\b.*");

    public static void main(String[] args) throws Exception {
        Check check = new Check();
        List<String> lines = Files.readAllLines(README);
        theExampleAnswersAsItSays(check, lines);
        everyCallIsTold(check, lines);
        everyConstantIsTold(check, lines);
        check.end();
    }

    private static List<String> example(List<String> lines) {
        int from = lines.indexOf("```java") + 1;
        List<String> rest = lines.subList(from, lines.size());
        return rest.subList(0, rest.indexOf("```"));
    }

    private static void theExampleAnswersAsItSays(Check check, List<String> lines) throws Exception {
        check.words("README.md: its example");
        StreamSeal x = new StreamSeal();
        for (String line : example(lines)) {
            Matcher call = CALL.matcher(line);
            if (call.matches()) {
                Object got = call(x, call.group(1), call.group(2));
                Matcher answer = ANSWER.matcher(call.group(3));
                check.due(line + " has an answer beside it", answer.matches() ? 1 : 0, got == null ? 0 : 1);
                if (got != null && answer.matches()) {
                    check.due(line, (Integer) got, Integer.parseInt(answer.group(1)));
                }
            } else {
                check.due("a line that is no call, " + line,
                        line.isEmpty() || line.equals("StreamSeal x = new StreamSeal();") ? 1 : 0, 1);
            }
        }
        check.due("OUT at the example's end", Hands.out(x), Bytes.text("body"));
    }

    /** A call without an answer gives null. */
    private static Object call(StreamSeal x, String name, String arguments) throws Exception {
        Method method = methodOf(name);
        Class<?>[] types = method.getParameterTypes();
        String[] texts = arguments.isEmpty() ? new String[0] : arguments.split(", ");
        Object[] values = new Object[texts.length];
        for (int i = 0; i < texts.length; i++) {
            long value = Long.decode(texts[i].replace("L", ""));
            if (types[i] == long.class) {
                values[i] = value;
            } else {
                values[i] = (int) value;
            }
        }
        return method.invoke(x, values);
    }

    private static Method methodOf(String name) {
        for (Method method : StreamSeal.class.getDeclaredMethods()) {
            if (method.getName().equals(name)) {
                return method;
            }
        }
        throw new IllegalArgumentException("README.md calls " + name + ", which is no call of the class");
    }

    private static void everyCallIsTold(Check check, List<String> lines) {
        check.words("README.md: its table has each call of the public face");
        String[] calls = {"feed(a, b, c, d, e)", "end(n)", "take(n)", "key()", "nonce(a, b)", "stream(c)",
            "sum()", "seal(n)", "open(n)", "digest()", "mac()", "octet(k)"};
        for (String call : calls) {
            check.due(call, linesThatBegin(lines, "| `" + call + "` |"), 1);
        }
    }

    private static void everyConstantIsTold(Check check, List<String> lines) {
        check.words("README.md: it says what each constant is");
        check.due("REFUSED", linesThatBegin(lines, "- `REFUSED` is " + StreamSeal.REFUSED + ":"), 1);
        check.due("NONE", linesThatBegin(lines, "- `NONE` is " + StreamSeal.NONE + ":"), 1);
        check.due("FULL", linesThatBegin(lines, "- `FULL` is " + StreamSeal.FULL + ":"), 1);
    }

    private static long linesThatBegin(List<String> lines, String start) {
        return lines.stream().filter(line -> line.startsWith(start)).count();
    }
}
