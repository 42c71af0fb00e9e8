import java.io.IOException;
import java.lang.reflect.Method;
import java.lang.reflect.Modifier;
import java.nio.file.Files;
import java.nio.file.Path;
import java.util.ArrayList;
import java.util.HashMap;
import java.util.HashSet;
import java.util.List;
import java.util.Map;
import java.util.Set;
import java.util.regex.Matcher;
import java.util.regex.Pattern;

/** README.md says how to use the class: its lines of code are called as they stand there, all on one object. */
public final class ReadmeTest {
    private static final String MADE = "HeededWishes house = new HeededWishes();";
    private static final Pattern CALL = Pattern.compile("house\\.(\\w+)\\(([^)]*)\\);\\s+// (-?\\w+)(:.*)?");
    private static final Map<String, Integer> REFUSALS = Map.of("BAD", HeededWishes.BAD, "NO", HeededWishes.NO,
        "FULL", HeededWishes.FULL, "NONE", HeededWishes.NONE, "HARM", HeededWishes.HARM);

    private static final HeededWishes house = new HeededWishes();
    private static final Map<String, Method> face = new HashMap<>();
    private static final Set<String> called = new HashSet<>();
    private static int wrong = 0;

    public static void main(String[] args) throws IOException, ReflectiveOperationException {
        for (Method method : HeededWishes.class.getDeclaredMethods()) {
            if (Modifier.isPublic(method.getModifiers())) face.put(method.getName(), method);
        }
        List<String> lines = code(Files.readString(Path.of("README.md")));
        must(!lines.isEmpty() && lines.get(0).equals(MADE), "the first line makes the object");
        for (int k = 1; k < lines.size(); k++) call(lines.get(k));
        Set<String> left = new HashSet<>(face.keySet());
        left.removeAll(called);
        must(left.isEmpty(), "each call of the face is shown, but for " + left);
        System.out.println(wrong == 0 ? lines.size() + " lines of README.md are as told" : wrong + " are not");
        if (wrong != 0) System.exit(1);
    }

    private static void must(boolean so, String what) {
        if (so) return;
        wrong++;
        System.out.println("not so: " + what);
    }

    private static List<String> code(String page) {
        List<String> lines = new ArrayList<>();
        Matcher blocks = Pattern.compile("(?s)```java\n(.*?)```").matcher(page);
        while (blocks.find()) {
            for (String line : blocks.group(1).split("\n")) lines.add(line.trim());
        }
        return lines;
    }

    private static void call(String line) throws ReflectiveOperationException {
        Matcher m = CALL.matcher(line);
        if (!m.matches() || !face.containsKey(m.group(1))) {
            must(false, "a call and its answer: " + line);
            return;
        }
        Method method = face.get(m.group(1));
        String[] told = m.group(2).isEmpty() ? new String[0] : m.group(2).split(", ");
        Class<?>[] types = method.getParameterTypes();
        must(told.length == types.length, "so many numbers: " + line);
        if (told.length != types.length) return;
        Object[] numbers = new Object[told.length];
        for (int k = 0; k < told.length; k++) {
            if (types[k] == long.class) numbers[k] = Long.decode(told[k].replace("L", ""));
            else numbers[k] = Integer.decode(told[k]);
        }
        called.add(m.group(1));
        int got = (int) method.invoke(house, numbers);
        Integer want = REFUSALS.containsKey(m.group(3)) ? REFUSALS.get(m.group(3)) : Integer.decode(m.group(3));
        must(got == want, line + " answered " + got);
    }
}
