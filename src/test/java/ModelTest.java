import java.util.ArrayList;
import java.util.List;
import java.util.Random;

/** Runs of calls drawn by fixed seeds, each answer held against NaiveWishes. */
public final class ModelTest {
    private static final int RUNS = 5000;
    private static final int CALLS = 512;

    private final Random random;
    private final HeededWishes x = new HeededWishes();
    private final NaiveWishes y = new NaiveWishes();
    private final List<String> told = new ArrayList<>();
    private int wrong = 0;
    private static long good = 0;

    private ModelTest(long seed) {
        random = new Random(seed);
    }

    private int below(int n) {
        return random.nextInt(n);
    }

    /** Mostly 0 to n - 1, now and then a number beside it. */
    private int near(int n) {
        int odd = below(60);
        return odd == 0 ? -1 - below(2) : odd == 1 ? n + below(2) : odd == 2 && below(8) == 0 ? random.nextInt() : below(n);
    }

    private void same(String call, int got, int want) {
        told.add(call + " answered " + got);
        if (want >= 0) good++;
        if (got == want || wrong > 0) return;
        wrong++;
        told.forEach(System.out::println);
        System.out.println("due is " + want);
    }

    private void addThing() {
        int a = near(below(3) == 0 ? 5 : 2), b = near(4), c = near(101);
        same("thing(" + a + ", " + b + ", " + c + ")", x.thing(a, b, c), y.thing(a, b, c));
    }

    private void addWord() {
        int k = near(4), a = near(k == 2 ? 3 : k == 3 ? 1 : 4), n = 1 + near(below(3) == 0 ? 4 : 2);
        int v = 0;
        for (int i = 0; i < n && i < 4; i++) v = v * 16 + below(6);
        if (below(40) == 0) v = random.nextInt(70000);
        same("word(" + k + ", " + a + ", " + n + ", " + v + ")", x.word(k, a, n, v), y.word(k, a, n, v));
    }

    private void addDoubt() {
        int a = near(6), b = near(6), v = near(10);
        same("doubt(" + a + ", " + b + ", " + v + ")", x.doubt(a, b, v), y.doubt(a, b, v));
    }

    private void move() {
        int f = near(below(4) == 0 ? 6 : 3), r = near(below(3) == 0 ? 6 : 3) - 1;
        if (below(3) > 0) r = Math.max(r, 0);
        same("go(" + f + ", " + r + ")", x.go(f, r), y.go(f, r));
    }

    private String item() {
        int a = below(24), b = below(24);
        int u = below(below(8) == 0 ? 11 : 4), t = below(below(8) == 0 ? 11 : 4);
        switch (below(4)) {
            case 0: return "x" + t + "," + (1 + below(3)) + "," + u + "," + below(4) + ";";
            case 1: return "n" + t + "," + (1 + below(3)) + ";";
            case 2: return "r" + below(7) + "," + below(5) + "," + below(6) + "," + Math.min(a, b) + "," + Math.max(a, b) + ";";
            default: return "r" + below(3) + ",4,5,0,23;";
        }
    }

    private void newText() {
        StringBuilder text = new StringBuilder("r0,4,5,0,23;r1,4,5,0,23;");
        if (below(6) == 0) text.setLength(0);
        int n = below(below(6) == 0 ? 30 : 7);
        for (int k = 0; k < n; k++) text.append(item());
        if (below(5) == 0 && text.length() > 0) {
            text.setCharAt(below(text.length()), "rxn,;0123456789 q".charAt(below(17)));
        }
        if (below(4) > 0) same("wipe()", x.wipe(), y.wipe());
        for (int k = 0; k < text.length(); ) {
            int many = Math.min(text.length() - k, 1 + below(8));
            long v = 0;
            for (int i = 0; i < many; i++) v = v << 8 | text.charAt(k + i);
            k += many;
            same("write(" + many + ", " + v + ")", x.write(many, v), y.write(many, v));
        }
        same("fault()", x.fault(), y.fault());
        same("force()", x.force(), y.force());
    }

    private void hear() {
        int f = near(3), sure = near(101);
        if (below(3) > 0) sure = 100;
        int n = 1 + near(8);
        long v = 0;
        for (int i = 0; i < n && i < 8; i++) v = v * 16 + below(6);
        if (y.words.size() > 0 && below(5) > 0) {
            int[] row = spoken();
            n = row.length;
            v = 0;
            for (int s : row) v = v * 16 + s;
        }
        if (below(50) == 0) v = random.nextLong();
        same("hear(" + f + ", " + sure + ", " + n + ", " + v + ")", x.hear(f, sure, n, v), y.hear(f, sure, n, v));
    }

    private int[] spoken() {
        List<Integer> sounds = new ArrayList<>();
        for (int kind : below(4) == 0 ? new int[] {0, 3} : below(3) == 0 ? new int[] {0, 1, 2} : new int[] {0, 1}) {
            List<NaiveWishes.Word> of = y.words.stream().filter(w -> w.kind() == kind).toList();
            if (!of.isEmpty()) sounds.addAll(of.get(below(of.size())).sounds());
        }
        if (below(3) == 0 || sounds.isEmpty()) sounds.add(below(sounds.size() + 1), below(6));
        while (sounds.size() > 8) sounds.remove(below(sounds.size()));
        return sounds.stream().mapToInt(k -> k).toArray();
    }

    private void addStanding() {
        int t = near(Math.max(1, y.things.size())), v = near(3), u = near(Math.max(1, y.things.size())), w = near(3);
        int h = near(24);
        switch (below(3)) {
            case 0:
                same("when(" + t + ", " + v + ", " + u + ", " + w + ")", x.when(t, v, u, w), y.when(t, v, u, w));
                break;
            case 1:
                same("at(" + h + ", " + u + ", " + w + ")", x.at(h, u, w), y.at(h, u, w));
                break;
            default:
                int habit = 100 * h + 10 * u + w;
                same("keepHabit(" + habit + ")", x.keepHabit(habit), y.keepHabit(habit));
        }
    }

    private void look() {
        int a = near(10), b = near(14), c = near(8);
        switch (below(14)) {
            case 0: same("state(" + a + ")", x.state(a), y.state(a)); break;
            case 1: same("why(" + a + ")", x.why(a), y.why(a)); break;
            case 2: same("cost(" + (a - 1) + ")", x.cost(a - 1), y.cost(a - 1)); break;
            case 3: same("count(" + a + ")", x.count(a), y.count(a)); break;
            case 4: same("barred()", x.barred(), y.barred()); break;
            case 5: same("quarrel()", x.quarrel(), y.quarrel()); break;
            case 6: same("wake()", x.wake(), y.wake()); break;
            case 7: same("show()", x.show(), y.show()); break;
            case 8: same("open()", x.open(), y.open()); break;
            case 9: same("ask()", x.ask(), y.ask()); break;
            case 10: same("reading(" + b + ", " + c + ")", x.reading(b, c), y.reading(b, c)); break;
            case 11: same("fault()", x.fault(), y.fault()); break;
            case 12: {
                int h = near(24), f = near(7);
                same("may(" + f + ", " + a + ", " + h + ")", x.may(f, a, h), y.may(f, a, h));
                break;
            }
            default: {
                int d = 1 + near(14), m = 1 + near(3), i = near(6) - 1;
                same("habits(" + d + ", " + m + ", " + i + ")", x.habits(d, m, i), y.habits(d, m, i));
            }
        }
    }

    private void act() {
        switch (below(12)) {
            case 0: same("undo()", x.undo(), y.undo()); break;
            case 1: {
                int n = below(3) == 0 ? 1 + near(100) : below(2) == 0 ? 24 : 1 + below(4);
                same("ticks(" + n + ")", x.ticks(n), y.ticks(n));
                break;
            }
            case 2: {
                int what = near(3), v = near(what == 0 ? 51 : what == 1 ? 21 : 101);
                same("rule(" + what + ", " + v + ")", x.rule(what, v), y.rule(what, v));
                break;
            }
            case 3: case 4: {
                int part = near(3), word = near(17) - (part == 2 ? 1 : 0);
                same("answer(" + part + ", " + word + ")", x.answer(part, word), y.answer(part, word));
                break;
            }
            case 5: {
                if (below(6) > 0) break;
                int f = near(3);
                same("forget(" + f + ")", x.forget(f), y.forget(f));
                break;
            }
            case 6: move(); break;
            default: hear(); same("done()", x.done(), y.done());
        }
    }

    private void allStates() {
        for (int t = 0; t < y.things.size(); t++) same("state(" + t + ")", x.state(t), y.state(t));
        for (int t = 0; t < y.things.size(); t++) same("why(" + t + ")", x.why(t), y.why(t));
    }

    private boolean run() {
        int things = below(11), words = below(17);
        for (int k = 0; k < things; k++) addThing();
        for (int k = 0; k < words; k++) addWord();
        for (int k = below(20); k > 0; k--) addDoubt();
        for (int k = 0; k < 4; k++) move();
        newText();
        for (int k = below(9); k > 0; k--) addStanding();
        while (told.size() < CALLS && wrong == 0) {
            int what = below(100);
            if (what < 40) act();
            else if (what < 80) look();
            else if (what < 84) allStates();
            else if (what < 86) addThing();
            else if (what < 88) addWord();
            else if (what < 90) addDoubt();
            else if (what < 92) addStanding();
            else if (what < 93) newText();
            else { hear(); same("open()", x.open(), y.open()); same("ask()", x.ask(), y.ask()); }
        }
        return wrong == 0;
    }

    /** A small house with much that stands and is barred: there SHOW, QUARREL, WAKE and HELD come to more. */
    private boolean runOfStanding() {
        int n = 2 + below(4), hours = below(7), items = 1 + below(3);
        for (int k = 0; k < n; k++) {
            int sort = below(3) == 0 ? 2 : 0;
            same("thing(" + k % 3 + ", " + sort + ", 1)", x.thing(k % 3, sort, 1), y.thing(k % 3, sort, 1));
        }
        for (int k = 0; k < 8; k++) {
            int t = below(n), v = below(3), u = below(n), w = below(4), h = below(24);
            if (k < hours) same("at(" + h + ", " + u + ", " + w + ")", x.at(h, u, w), y.at(h, u, w));
            else same("when(" + t + ", " + v + ", " + u + ", " + w + ")", x.when(t, v, u, w), y.when(t, v, u, w));
        }
        for (int k = 0; k < items; k++) {
            String item = "x" + below(n) + "," + (2 + below(2)) + "," + below(n) + "," + (1 + below(3)) + ";";
            for (char c : item.toCharArray()) same("write(1, " + (int) c + ")", x.write(1, c), y.write(1, c));
        }
        same("force()", x.force(), y.force());
        for (int k = 0; k < 6; k++) {
            same("show()", x.show(), y.show());
            same("quarrel()", x.quarrel(), y.quarrel());
            same("wake()", x.wake(), y.wake());
            int hoursOn = 1 + below(30);
            same("ticks(" + hoursOn + ")", x.ticks(hoursOn), y.ticks(hoursOn));
            same("count(5)", x.count(5), y.count(5));
            same("cost(-1)", x.cost(-1), y.cost(-1));
            allStates();
        }
        return wrong == 0;
    }

    public static void main(String[] args) {
        int failed = 0;
        for (int seed = 0; seed < RUNS && failed < 3; seed++) {
            boolean standing = seed % 2 == 1;
            ModelTest one = new ModelTest(seed);
            if (!(standing ? one.runOfStanding() : one.run())) {
                failed++;
                System.out.println("^ seed " + seed);
            }
        }
        System.out.println(failed == 0 ? "all answers are as due, " + good + " of them 0 or more" : failed + " runs are wrong");
        if (failed != 0) System.exit(1);
    }
}
