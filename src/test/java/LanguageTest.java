import java.io.IOException;
import java.lang.management.ManagementFactory;
import java.lang.reflect.Constructor;
import java.lang.reflect.Field;
import java.lang.reflect.Method;
import java.lang.reflect.Modifier;
import java.nio.file.Files;
import java.nio.file.Path;
import java.util.ArrayList;
import java.util.List;
import java.util.Map;
import java.util.Set;
import java.util.TreeMap;
import java.util.TreeSet;
import java.util.regex.Matcher;
import java.util.regex.Pattern;

/** What of LANGUAGE.md and of the document's face can be seen by a look at the source, the class and its heap. */
public final class LanguageTest {
    private static final String FACE = """
        int thing(int,int,int) int go(int,int) int state(int) int doubt(int,int,int) int word(int,int,int,int)
        int rule(int,int) int write(int,long) int wipe() int fault() int force() int may(int,int,int) int barred()
        int hear(int,int,int,long) int reading(int,int) int open() int ask() int answer(int,int) int done() int undo()
        int when(int,int,int,int) int at(int,int,int) int ticks(int) int quarrel() int wake() int show()
        int habits(int,int,int) int keepHabit(int) int forget(int) int cost(int) int why(int) int count(int)""";

    private static int wrong = 0;

    private static void must(boolean so, String what) {
        if (!so) {
            wrong++;
            System.out.println("not so: " + what);
        }
    }

    public static void main(String[] args) throws IOException {
        String source = Files.readString(Path.of("src/main/java/HeededWishes.java"));
        String code = source.replaceAll("(?s)/\\*.*?\\*/", "").replaceAll("//[^\n]*", "");
        face();
        faceAsWritten(code);
        words(code);
        methods(code);
        depth(code);
        fields();
        nothingMadeByCalls();
        hourWrapsAround();
        System.out.println(wrong == 0 ? "the language is kept to" : wrong + " faults");
        if (wrong != 0) {
            System.exit(1);
        }
    }

    private static void face() {
        Set<String> due = new TreeSet<>();
        Matcher m = Pattern.compile("int \\w+\\([^)]*\\)").matcher(FACE);
        while (m.find()) due.add(m.group());
        Set<String> found = new TreeSet<>();
        Set<String> hidden = new TreeSet<>();
        Set<String> open = new TreeSet<>();
        for (Method method : HeededWishes.class.getDeclaredMethods()) {
            List<String> types = new ArrayList<>();
            for (Class<?> type : method.getParameterTypes()) types.add(type.getSimpleName());
            String told = method.getReturnType() + " " + method.getName() + "(" + String.join(",", types) + ")";
            if (Modifier.isPublic(method.getModifiers())) {
                found.add(told);
                open.add(method.getName());
            } else {
                must(Modifier.isPrivate(method.getModifiers()), "private: " + told);
                hidden.add(method.getName());
            }
        }
        must(found.equals(due), "the face " + found);
        for (Class<?> inside : HeededWishes.class.getDeclaredClasses()) {
            must(Modifier.isStatic(inside.getModifiers()), "static: " + inside);
            for (Method method : inside.getDeclaredMethods()) hidden.add(method.getName());
        }
        hidden.retainAll(open);
        must(hidden.isEmpty(), "no other method has a public one's name: " + hidden);
        Constructor<?>[] made = HeededWishes.class.getDeclaredConstructors();
        must(made.length == 1 && Modifier.isPublic(made[0].getModifiers()) && made[0].getParameterCount() == 0, "constructor");
        must(Modifier.isFinal(HeededWishes.class.getModifiers()), "final");
        Set<String> constants = new TreeSet<>();
        for (Field field : HeededWishes.class.getDeclaredFields()) {
            if (!Modifier.isPrivate(field.getModifiers())) constants.add(field.getName());
        }
        must(constants.equals(Set.of("BAD", "NO", "FULL", "NONE", "HARM")), "constants " + constants);
    }

    /** "The public face" of the document, word for word: names, parameters and constants, and nothing public beside it. */
    private static void faceAsWritten(String code) throws IOException {
        Path document = Path.of("../shared/DOC.md");
        if (!Files.isReadable(document)) {
            System.out.println("without " + document + " the face is not looked up");
            return;
        }
        Matcher block = Pattern.compile("(?s)```java\n(.*?)```").matcher(Files.readString(document));
        must(block.find(), "the document has a face");
        List<String> due = publicLines(block.group(1));
        must(due.size() == 34, "a class, constants, a constructor and 31 methods, but " + due.size());
        must(publicLines(code).equals(due), "the face as it is written: " + publicLines(code));
    }

    private static List<String> publicLines(String text) {
        List<String> lines = new ArrayList<>();
        Matcher m = Pattern.compile("(?m)^\\s*public ([^;{]*)").matcher(text);
        while (m.find()) lines.add(m.group(1).trim());
        return lines;
    }

    private static void words(String code) {
        for (String word : List.of("throw", "try", "catch", "synchronized", "assert", "package", "protected", "native")) {
            must(!Pattern.compile("\\b" + word + "\\b").matcher(code).find(), "without " + word);
        }
        must(!code.contains("->") && !code.contains("::"), "no lambda, no method reference");
        must(!code.contains("\""), "no text is needed");
        must(!code.contains("Exact("), "none whose name ends in Exact");
        Matcher imports = Pattern.compile("import ([^;]+);").matcher(code);
        while (imports.find()) must(imports.group(1).equals("java.util.Arrays"), "import of " + imports.group(1));
        Matcher calls = Pattern.compile("\\b([A-Z]\\w*)\\.(\\w+)\\(").matcher(code);
        Set<String> library = Set.of("Arrays.fill", "System.arraycopy", "Math.min", "Math.max", "Math.floorMod", "Math.floorDiv", "Integer.bitCount",
            "Long.bitCount");
        while (calls.find()) must(library.contains(calls.group(1) + "." + calls.group(2)), "listed: " + calls.group());
    }

    /** Sixty lines and seven parameters at most, by the file's own way of setting braces. */
    private static void methods(String code) {
        String[] lines = code.split("\n");
        Pattern head = Pattern.compile("^( +)(?!(?:if|for|while|switch|else|return)\\b)[\\w\\[\\] ]*\\w+\\(([^()]*)\\) \\{$");
        for (int k = 0; k < lines.length; k++) {
            Matcher m = head.matcher(lines[k]);
            if (!m.find()) continue;
            int end = k;
            while (end < lines.length && !lines[end].equals(m.group(1) + "}")) end++;
            must(end - k <= 60, "short: " + lines[k].trim());
            must(m.group(2).split(",").length <= 7, "seven parameters: " + lines[k].trim());
        }
    }

    /**
     * No recursion, and calls eight deep at most, the library's counted. Methods are told apart by their names alone:
     * those that share one count as one, so the true depth is no greater.
     */
    private static void depth(String code) {
        Pattern head = Pattern.compile("(?m)^( +)(?!(?:if|for|while|switch|else|return)\\b)[\\w\\[\\] ]*?(\\w+)\\([^()]*\\) \\{\n");
        Map<String, String> bodies = new TreeMap<>();
        Matcher m = head.matcher(code);
        while (m.find()) {
            int end = code.indexOf("\n" + m.group(1) + "}", m.start());
            must(end > 0, "an end of " + m.group(2));
            bodies.merge(m.group(2), end < m.end() ? "" : code.substring(m.end(), end), (a, b) -> a + b);
        }
        must(bodies.keySet().containsAll(List.of("hear", "runRow", "House")), "methods are found");
        int deepest = 0;
        for (String name : bodies.keySet()) deepest = Math.max(deepest, depthOf(name, bodies, new ArrayList<>()));
        must(deepest > 4 && deepest <= 8, "calls eight deep at most, but " + deepest);
    }

    private static int depthOf(String name, Map<String, String> bodies, List<String> open) {
        must(!open.contains(name), "no recursion: " + open + " " + name);
        if (!bodies.containsKey(name) || open.contains(name)) return 1;
        open.add(name);
        int below = 0;
        Matcher calls = Pattern.compile("\\b(?!(?:if|for|while|switch|return)\\b)(\\w+)\\(").matcher(bodies.get(name));
        while (calls.find()) below = Math.max(below, depthOf(calls.group(1), bodies, open));
        open.remove(open.size() - 1);
        return below + 1;
    }

    private static void fields() {
        List<Class<?>> all = new ArrayList<>(List.of(HeededWishes.class.getDeclaredClasses()));
        all.add(HeededWishes.class);
        must(all.size() <= 12, "twelve classes");
        for (Class<?> one : all) {
            int own = 0;
            for (Field field : one.getDeclaredFields()) {
                if (!Modifier.isStatic(field.getModifiers())) own++;
                else must(Modifier.isFinal(field.getModifiers()), "final: " + field);
            }
            must(own <= 20, "twenty fields: " + one);
        }
    }

    /** All calls of a run live in one room: rows are made by the constructor, none by a call. */
    private static void nothingMadeByCalls() {
        com.sun.management.ThreadMXBean heap = (com.sun.management.ThreadMXBean) ManagementFactory.getThreadMXBean();
        long thread = Thread.currentThread().getId();
        HeededWishes x = new HeededWishes();
        heap.getThreadAllocatedBytes(thread);
        allCalls(new HeededWishes());
        long made = -heap.getThreadAllocatedBytes(thread);
        made += heap.getThreadAllocatedBytes(thread);
        long ahead = heap.getThreadAllocatedBytes(thread);
        for (int k = 0; k < 15; k++) allCalls(x);
        long by = heap.getThreadAllocatedBytes(thread) - ahead - made;
        must(by < 4096, "calls make nothing, but there are " + by + " bytes");
        ahead = heap.getThreadAllocatedBytes(thread);
        x = new HeededWishes();
        by = heap.getThreadAllocatedBytes(thread) - ahead - made;
        must(by < 60000 && x.count(0) == 0, "a new object is small, but it has " + by + " bytes");
    }

    /** Rule 7: no call may throw in any state. No run of 512 calls comes there, so the HOUR is put by hand. */
    private static void hourWrapsAround() {
        HeededWishes x = new HeededWishes();
        try {
            Field house = HeededWishes.class.getDeclaredField("house");
            house.setAccessible(true);
            Field hour = house.get(x).getClass().getDeclaredField("hour");
            hour.setAccessible(true);
            hour.setInt(house.get(x), Integer.MAX_VALUE - 50);
            for (int k = 0; k < 20; k++) allCalls(x);
            must(x.count(8) < 0 && x.count(7) > 1 && x.habits(14, 1, -1) > 0, "the HOUR went around");
        } catch (ReflectiveOperationException e) {
            must(false, "there is an hour of the house: " + e);
        }
    }

    private static void allCalls(HeededWishes x) {
        x.thing(0, 0, 1);
        x.go(0, 0);
        x.state(0);
        x.doubt(0, 1, 2);
        x.word(0, 1, 1, 1);
        x.word(1, 0, 1, 2);
        x.rule(1, 3);
        x.wipe();
        x.write(8, 0x72302C342C352C30L);
        x.write(4, 0x2C32333BL);
        x.write(5, 0x6E302C323BL);
        x.fault();
        x.force();
        x.may(0, 0, 0);
        x.barred();
        x.hear(0, 100, 2, 0x12);
        x.reading(0, 4);
        x.open();
        x.ask();
        x.answer(0, 0);
        x.done();
        x.undo();
        x.when(0, 1, 0, 2);
        x.at(3, 0, 1);
        x.ticks(10);
        x.quarrel();
        x.wake();
        x.show();
        x.habits(3, 1, 0);
        x.keepHabit(101);
        x.forget(1);
        x.cost(0);
        x.why(0);
        x.count(7);
    }
}
