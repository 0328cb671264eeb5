import java.io.IOException;
import java.lang.reflect.Method;
import java.lang.reflect.Modifier;
import java.nio.file.Files;
import java.nio.file.Path;
import java.util.HashMap;
import java.util.Map;
import java.util.Set;
import java.util.TreeSet;
import java.util.regex.Matcher;
import java.util.regex.Pattern;

/** Each call of the example in README.md is made, and must answer what the README says behind it. */
public final class ReadmeExample {
    private static final Pattern CALL =
            Pattern.compile("(?:int (\\w+) = )?x\\.(\\w+)\\((.*)\\);\\s+// (-?\\w+)(?:: .*)?");
    private static final int LEAST_CALLS = 40;
    private static final Map<String, Integer> names = new HashMap<>();
    private static final Set<String> called = new TreeSet<>();
    private static int calls = 0;
    private static int wrong = 0;

    private static void tellWrong(String what) {
        wrong++;
        System.out.println(what);
    }

    public static void main(String[] args) throws IOException, ReflectiveOperationException {
        names.put("BAD", TimeResources.BAD);
        names.put("NONE", TimeResources.NONE);
        names.put("FULL", TimeResources.FULL);
        names.put("CUT", TimeResources.CUT);
        TimeResources x = new TimeResources();
        for (String line : example()) {
            readLine(x, line.strip());
        }
        if (calls < LEAST_CALLS) {
            tellWrong("the README has only " + calls + " calls");
        }
        String text = Files.readString(Path.of("README.md"));
        for (Method m : TimeResources.class.getDeclaredMethods()) {
            boolean isPublic = Modifier.isPublic(m.getModifiers());
            if (isPublic && !called.contains(m.getName()) && !text.contains("`" + m.getName() + "`")) {
                tellWrong("the README has no word on " + m.getName());
            }
        }
        if (!text.contains("```sh\n.ci/run\n```")) {
            tellWrong("the README does not tell how the tests are run");
        }
        System.out.println(wrong == 0 ? calls + " calls of the README answer as it says" : wrong + " are not as due");
        if (wrong != 0) {
            System.exit(1);
        }
    }

    private static String[] example() throws IOException {
        String text = Files.readString(Path.of("README.md"));
        String open = "```java\n";
        int from = text.indexOf(open);
        int to = from < 0 ? -1 : text.indexOf("```", from + open.length());
        if (to < 0) {
            tellWrong("the README has no example");
            return new String[0];
        }
        return text.substring(from + open.length(), to).split("\n");
    }

    private static void readLine(TimeResources x, String line) throws ReflectiveOperationException {
        if (line.isEmpty() || line.startsWith("//") || line.equals("TimeResources x = new TimeResources();")) {
            return;
        }
        Matcher m = CALL.matcher(line);
        if (!m.matches()) {
            tellWrong("no call with its answer: " + line);
            return;
        }
        int got = call(x, m.group(2), m.group(3).isEmpty() ? new String[0] : m.group(3).split(", "));
        int said = valueOf(m.group(4));
        if (got != said) {
            tellWrong(line + " answered " + got);
        }
        if (m.group(1) != null) {
            names.put(m.group(1), got);
        }
        calls++;
        called.add(m.group(2));
    }

    private static int call(TimeResources x, String name, String[] words) throws ReflectiveOperationException {
        for (Method m : TimeResources.class.getMethods()) {
            if (m.getName().equals(name) && m.getParameterCount() == words.length) {
                Object[] values = new Object[words.length];
                for (int k = 0; k < words.length; k++) {
                    boolean isFlag = m.getParameterTypes()[k] == boolean.class;
                    values[k] = isFlag ? (Object) flagOf(words[k]) : (Object) valueOf(words[k]);
                }
                return (Integer) m.invoke(x, values);
            }
        }
        throw new IllegalStateException("no such method: " + name);
    }

    private static boolean flagOf(String word) {
        if (!word.equals("true") && !word.equals("false")) {
            throw new IllegalStateException("no such flag: " + word);
        }
        return word.equals("true");
    }

    private static int valueOf(String word) {
        Integer named = names.get(word);
        return named != null ? named : Integer.parseInt(word);
    }
}
