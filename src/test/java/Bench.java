import java.io.IOException;
import java.lang.reflect.Method;
import java.nio.file.Files;
import java.nio.file.Path;
import java.util.ArrayList;
import java.util.Arrays;
import java.util.HashMap;
import java.util.List;
import java.util.Map;

/**
 * Where the boundary tests run: each names the promise and the sentence it is for, and the sentence must stand in
 * the document. Calls are told as texts ("thing 0 0 3"), so that a run can be made again: a refused call is held
 * against a twin without it, and both must answer alike from then on.
 */
final class Bench {
    static final int BAD = -1, NO = -2, FULL = -3, NONE = -4, HARM = -5, NOT_GONE = -100;
    private static final int CALLS = 512;
    private static final Path DOCUMENT = Path.of("../shared/DOC.md");
    private static final Map<String, Method> METHODS = new HashMap<>();

    static {
        for (Method method : HeededWishes.class.getDeclaredMethods()) METHODS.put(method.getName(), method);
    }

    /** Texts of the document by promise (0: all ahead of the promises), and what of them was quoted. */
    private final Map<Integer, String> texts = new HashMap<>();
    private final Map<Integer, boolean[]> quoted = new HashMap<>();
    private String named = "";
    private int sentences = 0, checks = 0, wrong = 0;

    Bench() {
        if (!Files.isReadable(DOCUMENT)) {
            System.out.println("without " + DOCUMENT + " the quotes are not looked up");
            return;
        }
        try {
            readDocument(Files.readString(DOCUMENT));
        } catch (IOException e) {
            System.out.println("quotes are not looked up: " + e);
            texts.clear();
        }
    }

    private void readDocument(String document) {
        String[] parts = document.split("(?m)^## Promise \\d+: .*$");
        for (int k = 0; k < parts.length; k++) {
            String text = parts[k].replaceAll("(?s)```java.*?```", " ").replaceAll("(?m)^(#|```).*$", " ")
                .replaceAll("======== \\d ", " ").replaceAll("(?s)Ahead of the calls.*", " ")
                .replaceAll("(?s)How the state is held inside.*", " ").replaceAll("`[^`]*`:", " ")
                .replaceAll("\\s+", " ").trim();
            texts.put(k, text);
            quoted.put(k, new boolean[text.length()]);
        }
    }

    /** A sentence ahead of the promises, with the promises that it is told for. */
    void terms(String promises, String sentence) {
        quote(0, "promises " + promises, sentence);
    }

    /** A sentence of one promise. */
    void promise(int number, String sentence) {
        quote(number, "promise " + number, sentence);
    }

    private void quote(int part, String of, String sentence) {
        named = of + ", \"" + sentence + "\"";
        sentences++;
        if (texts.isEmpty()) return;
        int from = texts.getOrDefault(part, "").indexOf(sentence);
        must(from >= 0, "the document says so");
        if (from >= 0) Arrays.fill(quoted.get(part), from, from + sentence.length(), true);
    }

    /** Each word of this part of the document, from these words on, must have been quoted for a test. */
    void mustBeQuoted(int part, String from) {
        if (texts.isEmpty()) return;
        named = "part " + part + " of the document";
        String text = texts.get(part);
        StringBuilder left = new StringBuilder();
        int start = text.indexOf(from);
        must(start >= 0, "it has \"" + from + "\"");
        for (int k = Math.max(0, start); k < text.length(); k++) {
            left.append(quoted.get(part)[k] ? ' ' : text.charAt(k));
        }
        must(left.toString().isBlank(), "a test for: " + left.toString().replaceAll("\\s+", " "));
    }

    void must(boolean so, String what) {
        checks++;
        if (so) return;
        wrong++;
        System.out.println(named + ": not so: " + what);
    }

    void end() {
        System.out.println(wrong == 0 ? sentences + " sentences hold by " + checks + " answers"
            : wrong + " answers are not as due");
        if (wrong != 0) System.exit(1);
    }

    Run run() {
        return new Run();
    }

    /**
     * Folk 0 and 1 in room 0, who may turn all; words 0 to 3 VERB 0 to 3 (sounds 0 to 3), 4 to 7 SORT 0 to 3
     * (sounds 4 to 7), 8 to 12 ROOM 0 to 4 (sounds 8 to 12), 13 IT (sound 13). LIMIT is 0: rows as they are told.
     */
    Run speakers() {
        Run x = run();
        for (int k = 0; k < 4; k++) x.does("word 0 " + k + " 1 " + k);
        for (int k = 0; k < 4; k++) x.does("word 1 " + k + " 1 " + (4 + k));
        for (int k = 0; k < 5; k++) x.does("word 2 " + k + " 1 " + (8 + k));
        x.does("word 3 0 1 13; go 0 0; go 1 0; rule 0 0");
        x.rules("r0,4,5,0,23;r1,4,5,0,23;");
        return x;
    }

    private static int answer(HeededWishes x, String call) {
        String[] parts = call.trim().split(" +");
        Method method = METHODS.get(parts[0]);
        Class<?>[] types = method.getParameterTypes();
        if (types.length != parts.length - 1) throw new IllegalArgumentException("not a call: " + call);
        Object[] numbers = new Object[types.length];
        for (int k = 0; k < types.length; k++) {
            if (types[k] == long.class) numbers[k] = Long.decode(parts[k + 1]);
            else numbers[k] = Integer.decode(parts[k + 1]);
        }
        try {
            return (int) method.invoke(x, numbers);
        } catch (ReflectiveOperationException e) {
            throw new IllegalStateException(call + " threw " + e.getCause(), e);
        }
    }

    /** One object, and the calls it had: 512 at most. */
    final class Run {
        private final List<String> calls = new ArrayList<>();
        private final HeededWishes object = new HeededWishes();

        private int call(String call) {
            calls.add(call);
            must(calls.size() <= CALLS, "512 calls at most");
            return answer(object, call);
        }

        /** Calls parted by ; that must not be refused. */
        Run does(String row) {
            for (String call : row.split(";")) {
                int got = call(call);
                must(got >= 0 || call.trim().startsWith("go ") && got == -1, call + " is taken, but answered " + got);
            }
            return this;
        }

        Run due(String call, int want) {
            int got = call(call);
            must(got == want, call + " answered " + got + ", due is " + want + told());
            return this;
        }

        Run due(int want, String... row) {
            for (String call : row) due(call, want);
            return this;
        }

        private String told() {
            return calls.size() > 40 ? "" : " behind " + String.join("; ", calls.subList(0, calls.size() - 1));
        }

        /** A call that is refused with this answer, and changes nothing. */
        Run refused(String call, int want) {
            List<String> ahead = List.copyOf(calls);
            due(call, want);
            List<String> without = new Twin(ahead, null).tells();
            List<String> with = new Twin(ahead, call).tells();
            int k = 0;
            while (k < with.size() && k < without.size() && with.get(k).equals(without.get(k))) k++;
            must(with.equals(without), call + " is refused, but then " + tellAt(with, k) + ", else " + tellAt(without, k));
            return this;
        }

        private String tellAt(List<String> told, int k) {
            return k < told.size() ? told.get(k) : "nothing";
        }

        Run refused(int want, String... row) {
            for (String call : row) refused(call, want);
            return this;
        }

        Run text(String text) {
            for (int k = 0; k < text.length(); k += 8) {
                String piece = text.substring(k, Math.min(text.length(), k + 8));
                long v = 0;
                for (char c : piece.toCharArray()) v = v << 8 | c;
                does("write " + piece.length() + " " + v);
            }
            return this;
        }

        /** This TEXT IN FORCE. */
        Run rules(String text) {
            return does("wipe").text(text).does("force");
        }

        /** Heard, surely: each sound one figure. */
        Run hear(int folk, String sounds, int readings) {
            return due("hear " + folk + " 100 " + sounds.length() + " 0x" + sounds, readings);
        }

        /** Heard, surely, and DONE. */
        Run wish(int folk, String sounds, int want) {
            call("hear " + folk + " 100 " + sounds.length() + " 0x" + sounds);
            return due("done", want);
        }
    }

    /** A run made again, with or without one call more, that tells all that can be seen of it. */
    private static final class Twin {
        private final HeededWishes object = new HeededWishes();
        private final List<String> told = new ArrayList<>();
        /** The refused call is one more on one of the two: both leave room for it. */
        private int left;
        private int many;

        Twin(List<String> calls, String more) {
            for (String call : calls) answer(object, call);
            if (more != null) answer(object, more);
            left = CALLS - 1 - calls.size();
        }

        private int ask(String call) {
            if (left <= 0) return NONE;
            left--;
            int got = answer(object, call);
            told.add(call + " answered " + got);
            return got;
        }

        List<String> tells() {
            counts();
            things();
            heard();
            habits();
            for (String call : "fault barred quarrel wake show".split(" ")) ask(call);
            deeds();
            bounds();
            rights();
            // Ahead of the hours, since all below changes what is there.
            things();
            for (String hours : "1 1 1 1 1 1 1 17".split(" ")) {
                ask("ticks " + hours);
                things();
            }
            it();
            for (int f = 0; f < 6; f++) ask("go " + f + " -1");
            for (int f = 0; f < 6; f++) ask("forget " + f);
            text();
            counts();
            for (int k = 0; k < 40; k++) ask("doubt " + (k * 7 + 1) % 16 + " " + k * 3 % 16 + " 0");
            return told;
        }

        private void counts() {
            many = ask("count 0");
            for (int k = 1; k <= 9; k++) ask("count " + k);
        }

        private void things() {
            for (int t = 0; t < many; t++) {
                ask("state " + t);
                ask("why " + t);
                ask("cost " + t);
            }
        }

        private void heard() {
            ask("open");
            ask("ask");
            for (int i = 0; i < 12 && ask("reading " + i + " 0") >= 0; i++) {
                for (int what = 1; what <= 4; what++) ask("reading " + i + " " + what);
            }
        }

        private void habits() {
            ask("habits 14 1 -1");
            for (int i = 0; i < 5 && ask("habits 14 1 " + i) >= 0; i++) { }
            ask("habits 1 1 -1");
        }

        private void deeds() {
            ask("done");
            for (int k = 0; k < 4 && ask("undo") >= 0; k++) { }
        }

        private void bounds() {
            for (int what = 0; what < 3; what++) ask("rule " + what + " 20");
        }

        private void rights() {
            for (int f = 0; f <= 6; f += 3) {
                for (int h = 0; h < 24; h += 6) ask("may " + f + " 0 " + h);
            }
        }

        private void it() {
            ask("hear 0 100 2 0x1D");
            ask("reading 0 4");
            ask("hear 0 100 3 0x149");
            ask("reading 0 4");
        }

        /** What THE TEXT is, byte for byte: its fault, and what it is with an end put to it. */
        private void text() {
            ask("fault");
            ask("force");
            ask("write 1 59");
            ask("fault");
            ask("force");
            ask("barred");
        }
    }
}
