import java.lang.reflect.Method;
import java.lang.reflect.Modifier;
import java.nio.file.Files;
import java.nio.file.Path;
import java.util.HashMap;
import java.util.Map;
import java.util.TreeSet;
import java.util.regex.Matcher;
import java.util.regex.Pattern;

/**
 * The examples of README.md are made, line by line, on one MentorPairs: each answers what stands
 * behind it, and every call of the face stands in one of them.
 */
public final class ReadmeTest {
    private static final Pattern BLOCK = Pattern.compile("(?ms)^```java\n(.*?)^```$");
    private static final Pattern LINE = Pattern.compile("(?:(\\w+) (\\w+) = )?house\\.(\\w+)\\((.*)\\); +// (-?\\w+)(?::.*)?");
    private static final String MADE = "MentorPairs house = new MentorPairs();";
    private static final int MOST_CALLS = 512;
    private static final int LAST_STATUS = 12;

    private static final Map<String, Object> known = new HashMap<>();
    private static final TreeSet<String> used = new TreeSet<>();
    private static MentorPairs house = null;
    private static int calls = 0;
    private static int wrong = 0;

    public static void main(String[] args) throws Exception {
        String readme = Files.readString(Path.of("README.md"));
        known.put("MentorPairs.NONE", MentorPairs.NONE);
        Matcher block = BLOCK.matcher(readme);
        while (block.find()) {
            for (String line : block.group(1).split("\n")) {
                checkLine(line);
            }
        }
        checkAllCallsStand();
        checkAllStatusStand(readme);
        require(calls <= MOST_CALLS, "one object is used for " + calls + " calls");
        System.out.println(wrong == 0 ? calls + " calls of README.md answer as it says" : wrong + " faults in README.md");
        if (wrong != 0) {
            System.exit(1);
        }
    }

    private static void require(boolean holds, String otherwise) {
        if (!holds) {
            wrong++;
            System.out.println(otherwise);
        }
    }

    private static void checkLine(String line) throws Exception {
        if (line.equals(MADE)) {
            require(house == null, "made twice: " + line);
            house = new MentorPairs();
            return;
        }
        Matcher parts = LINE.matcher(line);
        Method call = parts.matches() ? callNamed(parts.group(3)) : null;
        if (call == null || house == null) {
            require(false, "no call with an answer: " + line);
            return;
        }
        Object[] arguments = valuesOf(call, parts.group(4));
        if (arguments == null) {
            require(false, "other arguments are due: " + line);
            return;
        }
        calls++;
        used.add(call.getName());
        Object answer = call.invoke(house, arguments);
        require(String.valueOf(answer).equals(parts.group(5)), "answered " + answer + ": " + line);
        if (parts.group(1) != null) {
            require(parts.group(1).equals(call.getReturnType().getName()), "of another type: " + line);
            require(known.put(parts.group(2), answer) == null, "named twice: " + line);
        }
    }

    private static Method callNamed(String name) {
        for (Method m : MentorPairs.class.getDeclaredMethods()) {
            if (Modifier.isPublic(m.getModifiers()) && m.getName().equals(name)) {
                return m;
            }
        }
        return null;
    }

    /** The arguments as the call takes them, or null if they don't fit it. */
    private static Object[] valuesOf(Method call, String text) {
        String[] words = text.isEmpty() ? new String[0] : text.split(", ");
        Class<?>[] types = call.getParameterTypes();
        if (words.length != types.length) {
            return null;
        }
        Object[] values = new Object[words.length];
        for (int i = 0; i < words.length; i++) {
            values[i] = known.containsKey(words[i]) ? known.get(words[i]) : literal(types[i], words[i]);
            boolean fits = values[i] != null && (types[i] != boolean.class) == (values[i] instanceof Number);
            if (!fits) {
                return null;
            }
        }
        return values;
    }

    private static Object literal(Class<?> type, String word) {
        if (type == boolean.class) {
            return word.equals("true") ? Boolean.TRUE : word.equals("false") ? Boolean.FALSE : null;
        }
        if (!word.matches("-?\\d+")) {
            return null;
        }
        if (type == long.class) {
            return Long.valueOf(word);
        }
        return Integer.valueOf(word);
    }

    private static void checkAllCallsStand() {
        for (Method m : MentorPairs.class.getDeclaredMethods()) {
            boolean isOfFace = Modifier.isPublic(m.getModifiers());
            require(!isOfFace || used.contains(m.getName()), "no example has " + m.getName());
        }
    }

    private static void checkAllStatusStand(String readme) {
        for (int s = 0; s <= LAST_STATUS; s++) {
            require(readme.contains("\n| " + s + " | "), "STATUS " + s + " is not explained");
        }
    }
}
