import java.lang.reflect.Method;
import java.lang.reflect.Modifier;
import java.nio.file.Files;
import java.nio.file.Path;
import java.util.HashSet;
import java.util.Map;
import java.util.Set;
import java.util.TreeMap;
import java.util.regex.Matcher;
import java.util.regex.Pattern;

/** README.md says how to use the class: its example answers as it says, and every call has a place in its table. */
final class ReadmeTest {
    private static final Pattern CALL = Pattern.compile("x\\.(\\w+)\\((.*)\\); +// (-?\\d+): .*");
    private static final Pattern NAME = Pattern.compile("`(\\w+)`");
    private static final Check CHECK = new Check("ReadmeTest");

    public static void main(String[] args) throws Exception {
        HeadReckons x = null;
        boolean isExample = false;
        boolean isCalls = false;
        Set<String> told = new HashSet<>();
        for (String line : Files.readAllLines(Path.of("README.md"))) {
            if (line.startsWith("```")) {
                isExample = line.equals("```java");
            } else if (isExample && line.equals("HeadReckons x = new HeadReckons();")) {
                x = new HeadReckons();
            } else if (isExample) {
                checkLine(x, line);
            }
            isCalls = line.startsWith("| calls |") || isCalls && line.startsWith("|");
            Matcher name = NAME.matcher(isCalls ? line : "");
            while (name.find()) {
                told.add(name.group(1));
            }
        }
        CHECK.that("the example has an object", x != null);
        CHECK.that("every call is told", told.equals(calls().keySet()));
        CHECK.end();
    }

    private static Map<String, Method> calls() {
        Map<String, Method> calls = new TreeMap<>();
        for (Method method : HeadReckons.class.getDeclaredMethods()) {
            if (Modifier.isPublic(method.getModifiers())) {
                calls.put(method.getName(), method);
            }
        }
        return calls;
    }

    private static void checkLine(HeadReckons x, String line) throws Exception {
        Matcher call = CALL.matcher(line);
        boolean isCall = call.matches() && calls().containsKey(call.group(1));
        CHECK.that("README.md, a call with its answer: " + line, isCall);
        if (!isCall) {
            return;
        }
        Method method = calls().get(call.group(1));
        String[] words = call.group(2).isEmpty() ? new String[0] : call.group(2).split(", ");
        Object[] values = new Object[words.length];
        for (int i = 0; i < words.length; i++) {
            long value = Long.decode(words[i].replace("L", ""));
            boolean isLong = method.getParameterTypes()[i] == long.class;
            values[i] = isLong ? (Object) value : (Object) (int) value;
        }
        CHECK.due(line, ((Number) method.invoke(x, values)).longValue(), Long.parseLong(call.group(3)));
    }
}
