import java.lang.reflect.Method;
import java.lang.reflect.Modifier;
import java.nio.file.Files;
import java.nio.file.Path;
import java.util.Map;
import java.util.Set;
import java.util.TreeMap;
import java.util.TreeSet;
import java.util.regex.Matcher;
import java.util.regex.Pattern;

/** The examples of README.md, run: behind // each call there has the answer that is due. */
public final class ReadmeTest {
    private static final Path README = Path.of("README.md");
    private static final Pattern EXAMPLE =
            Pattern.compile("x\\.(\\w+)\\(([^)]*)\\); *// ([A-Z]+|-?\\d+)(:.*)?");
    private static final Map<String, Long> CONSTANTS = Map.of("NONE", -1L, "BAD", -2L, "STATE", -3L,
            "FULL", -4L, "NO", Long.MIN_VALUE);

    private static final Map<String, Method> face = new TreeMap<>();
    private static int asked = 0;
    private static int wrong = 0;

    public static void main(String[] args) throws Exception {
        for (Method method : GrainGrower.class.getDeclaredMethods()) {
            if (Modifier.isPublic(method.getModifiers())) {
                face.put(method.getName(), method);
            }
        }
        String page = Files.readString(README);
        examples(page);
        allCallsAreNamed(page);
        System.out.println(asked + " examples run, " + wrong + " things are not as README.md says");
        if (wrong != 0) {
            System.exit(1);
        }
    }

    private static void fail(String what) {
        wrong++;
        System.out.println("README.md: " + what);
    }

    private static void examples(String page) throws Exception {
        Matcher block = Pattern.compile("(?s)```java\n(.*?)```").matcher(page);
        int blocks = 0;
        while (block.find()) {
            blocks++;
            GrainGrower x = null;
            for (String line : block.group(1).split("\n")) {
                if (line.startsWith("GrainGrower x = new GrainGrower();")) {
                    x = new GrainGrower();
                } else {
                    run(x, line);
                }
            }
        }
        if (blocks == 0 || asked == 0) {
            fail("it has no examples");
        }
    }

    private static void run(GrainGrower x, String line) throws Exception {
        Matcher example = EXAMPLE.matcher(line);
        if (x == null || !example.matches() || !face.containsKey(example.group(1))) {
            fail("this is no call with its answer: " + line);
            return;
        }
        Method method = face.get(example.group(1));
        String[] words = example.group(2).isEmpty() ? new String[0] : example.group(2).split(", ");
        Class<?>[] types = method.getParameterTypes();
        if (words.length != types.length) {
            fail("so many arguments are not taken: " + line);
            return;
        }
        Object[] arguments = new Object[words.length];
        for (int i = 0; i < words.length; i++) {
            long v = words[i].startsWith("'") ? words[i].charAt(1) : Long.parseLong(words[i]);
            // As an if: the ?: of an int and a long would make both of them longs.
            if (types[i] == long.class) {
                arguments[i] = v;
            } else {
                arguments[i] = (int) v;
            }
        }
        asked++;
        long got = ((Number) method.invoke(x, arguments)).longValue();
        String due = example.group(3);
        long want = CONSTANTS.containsKey(due) ? CONSTANTS.get(due) : Long.parseLong(due);
        if (got != want) {
            fail(line.trim() + " .. but the answer is " + got);
        }
    }

    private static void allCallsAreNamed(String page) {
        Set<String> missing = new TreeSet<>();
        for (String name : face.keySet()) {
            if (!page.contains("`" + name + "`") || !page.contains("x." + name + "(")) {
                missing.add(name);
            }
        }
        if (!missing.isEmpty()) {
            fail("it has no example or no word of " + missing);
        }
    }
}
