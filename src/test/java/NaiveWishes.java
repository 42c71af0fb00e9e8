import java.util.ArrayList;
import java.util.Arrays;
import java.util.HashMap;
import java.util.HashSet;
import java.util.List;
import java.util.Map;
import java.util.Set;
import java.util.TreeMap;
import java.util.regex.Matcher;
import java.util.regex.Pattern;

/** The document once more, by lists, maps and blunt search: what ModelTest holds HeededWishes against. */
final class NaiveWishes {
    static final int BAD = -1, NO = -2, FULL = -3, NONE = -4, HARM = -5;

    static final class Thing {
        int room, sort, cost, state, spent, why = NONE;
        int top() { return new int[] {3, 1, 2, 1}[sort]; }
    }

    record Word(int kind, int number, List<Integer> sounds) { }

    record Item(char letter, int[] n) { }

    record Stand(boolean byHour, int t, int v, int u, int w) { }

    record Entry(int who, int day, int hour, int thing, int state) { }

    record Wish(Map<Integer, Integer> ahead) { }

    static final class Reading {
        int price;
        List<Integer> words;
        Set<Integer> meant = new HashSet<>();
        boolean open;
        int verbState;
    }

    final List<Thing> things = new ArrayList<>();
    final int[] folk = {-1, -1, -1, -1, -1, -1};
    final int[][] doubts = new int[16][16];
    final List<Word> words = new ArrayList<>();
    final int[] bounds = {20, 3, 60};
    String text = "";
    List<Item> items = new ArrayList<>();
    List<Reading> readings = null;
    int speaker, rights;
    final List<Wish> wishes = new ArrayList<>();
    final Set<Integer> back = new HashSet<>();
    Set<Integer> last = new HashSet<>();
    final List<Stand> stands = new ArrayList<>();
    List<Entry> log = new ArrayList<>();
    int hour, held, forgotten;

    NaiveWishes() {
        for (int a = 0; a < 16; a++) {
            Arrays.fill(doubts[a], 9);
            doubts[a][a] = 0;
        }
    }

    private static boolean out(long v, long least, long most) { return v < least || v > most; }

    private boolean noThing(int t) { return out(t, 0, things.size() - 1); }

    private boolean noState(int t, int v) { return noThing(t) || out(v, 0, things.get(t).top()); }

    int thing(int room, int sort, int cost) {
        if (out(room, 0, 4) || out(sort, 0, 3) || out(cost, 0, 100)) return BAD;
        if (things.size() == 10) return FULL;
        Thing t = new Thing();
        t.room = room;
        t.sort = sort;
        t.cost = cost;
        things.add(t);
        return things.size() - 1;
    }

    int go(int f, int room) {
        if (out(f, 0, 5) || out(room, -1, 4)) return -100;
        int was = folk[f];
        folk[f] = room;
        return was;
    }

    int state(int t) { return noThing(t) ? BAD : things.get(t).state; }

    int doubt(int told, int heard, int v) {
        if (out(told, 0, 15) || out(heard, 0, 15) || told == heard || out(v, 0, 9)) return BAD;
        int was = doubts[told][heard];
        doubts[told][heard] = v;
        return was;
    }

    private static List<Integer> sounds(int n, long v) {
        List<Integer> sounds = new ArrayList<>();
        for (int k = 0; k < n; k++) {
            sounds.add(0, (int) (v % 16));
            v /= 16;
        }
        return sounds;
    }

    int word(int kind, int number, int n, int v) {
        if (out(kind, 0, 3) || out(number, 0, new int[] {3, 3, 4, 0}[kind]) || out(n, 1, 4)
            || out(v, 0, (long) Math.pow(16, n) - 1)) return BAD;
        if (words.size() == 16) return FULL;
        words.add(new Word(kind, number, sounds(n, v)));
        return words.size() - 1;
    }

    int rule(int what, int v) {
        if (out(what, 0, 2) || out(v, 0, new int[] {50, 20, 100}[what])) return BAD;
        int was = bounds[what];
        bounds[what] = v;
        return was;
    }

    int write(int n, long v) {
        if (out(n, 1, 8)) return BAD;
        if (text.length() + n > 200) return FULL;
        String more = "";
        for (int k = 0; k < n; k++) {
            more = (char) (v & 255) + more;
            v >>= 8;
        }
        text += more;
        return text.length();
    }

    int wipe() {
        int was = text.length();
        text = "";
        return was;
    }

    private static final Pattern ITEM =
        Pattern.compile("r(\\d\\d?),(\\d\\d?),(\\d\\d?),(\\d\\d?),(\\d\\d?);|x(\\d\\d?),(\\d\\d?),(\\d\\d?),(\\d\\d?);|n(\\d\\d?),(\\d\\d?);");

    private int parse(List<Item> into) {
        int place = 0;
        while (place < text.length()) {
            Matcher m = ITEM.matcher(text).region(place, text.length());
            if (!m.lookingAt()) return place;
            List<Integer> n = new ArrayList<>();
            for (int g = 1; g <= m.groupCount(); g++) if (m.group(g) != null) n.add(Integer.parseInt(m.group(g)));
            char letter = text.charAt(place);
            boolean so = letter == 'r'
                ? n.get(0) <= 6 && n.get(1) <= 4 && n.get(2) <= 5 && n.get(3) <= 23 && n.get(4) <= 23 && n.get(3) <= n.get(4)
                : n.get(0) <= 9 && n.get(1) >= 1 && n.get(1) <= 3
                    && (letter == 'n' || n.get(2) <= 9 && n.get(3) <= 3);
            if (!so) return place;
            into.add(new Item(letter, n.stream().mapToInt(k -> k).toArray()));
            place = m.end();
        }
        return NONE;
    }

    int fault() { return parse(new ArrayList<>()); }

    int force() {
        List<Item> found = new ArrayList<>();
        if (parse(found) != NONE) return NO;
        items = found;
        return items.size();
    }

    private boolean mayTurn(int f, int t, int h) {
        Thing it = things.get(t);
        return items.stream().anyMatch(i -> i.letter == 'r' && i.n[0] == f && (i.n[1] == 4 || i.n[1] == it.sort)
            && (i.n[2] == 5 || i.n[2] == it.room) && i.n[3] <= h && h <= i.n[4]);
    }

    int may(int f, int t, int h) {
        if (out(f, 0, 6) || noThing(t) || out(h, 0, 23)) return BAD;
        return mayTurn(f, t, h) ? 1 : 0;
    }

    private int[] states() {
        int[] s = new int[10];
        for (int t = 0; t < things.size(); t++) s[t] = things.get(t).state;
        return s;
    }

    private Set<Integer> bars(int[] s) {
        Set<Integer> bars = new HashSet<>();
        for (int k = 0; k < items.size(); k++) {
            Item i = items.get(k);
            if (i.letter == 'x' && s[i.n[0]] >= i.n[1] && s[i.n[2]] >= i.n[3]) bars.add(k);
            if (i.letter == 'n' && s[i.n[0]] >= i.n[1]) {
                boolean somebody = false;
                for (int f : folk) somebody |= f == things.get(i.n[0]).room;
                if (!somebody) bars.add(k);
            }
        }
        return bars;
    }

    private boolean newlyBarred(int[] s, int[] after) {
        Set<Integer> more = bars(after);
        more.removeAll(bars(s));
        return !more.isEmpty();
    }

    int barred() { return bars(states()).size(); }

    private int price(List<Integer> told, List<Integer> heard) {
        return price(told, 0, heard, 0, new HashMap<>());
    }

    private int price(List<Integer> told, int a, List<Integer> heard, int b, Map<Integer, Integer> known) {
        if (a == told.size()) return 6 * (heard.size() - b);
        if (b == heard.size()) return 6 * (told.size() - a);
        Integer k = known.get(100 * a + b);
        if (k != null) return k;
        int least = doubts[told.get(a)][heard.get(b)] + price(told, a + 1, heard, b + 1, known);
        least = Math.min(least, 6 + price(told, a + 1, heard, b, known));
        least = Math.min(least, 6 + price(told, a, heard, b + 1, known));
        known.put(100 * a + b, least);
        return least;
    }

    private void addRow(List<Reading> all, List<Integer> heard, Integer... row) {
        Reading r = new Reading();
        r.words = List.of(row);
        List<Integer> told = new ArrayList<>();
        for (int w : row) if (w >= 0) told.addAll(words.get(w).sounds);
        r.price = price(told, heard);
        r.verbState = words.get(row[0]).number;
        if (r.price <= bounds[0]) all.add(r);
    }

    int hear(int f, int sure, int n, long v) {
        if (out(f, 0, 5) || out(sure, 0, 100) || out(n, 1, 8) || v < 0 || n < 8 && v >= (long) Math.pow(16, n)
            || v >= 4294967296L) return BAD;
        if (folk[f] < 0) return NO;
        List<Reading> all = new ArrayList<>();
        List<Integer> heard = sounds(n, v);
        for (int a = 0; a < words.size(); a++) {
            for (int b = 0; b < words.size(); b++) {
                if (words.get(a).kind != 0) continue;
                if (words.get(b).kind == 3 || words.get(b).kind == 1) addRow(all, heard, a, b, -1);
                for (int c = 0; c < words.size() && words.get(b).kind == 1; c++) {
                    if (words.get(c).kind == 2) addRow(all, heard, a, b, c);
                }
            }
        }
        all.sort((p, q) -> p.price != q.price ? p.price - q.price : compare(p.words, q.words));
        readings = all.subList(0, Math.min(12, all.size()));
        speaker = f;
        rights = sure < bounds[2] ? 6 : f;
        for (Reading r : readings) findMeant(r);
        int least = readings.stream().filter(r -> !r.meant.isEmpty()).mapToInt(r -> r.price).min().orElse(0);
        for (Reading r : readings) r.open = !r.meant.isEmpty() && r.price <= least + bounds[1];
        return readings.size();
    }

    private static int compare(List<Integer> p, List<Integer> q) {
        for (int k = 0; k < 3; k++) if (!p.get(k).equals(q.get(k))) return p.get(k) - q.get(k);
        return 0;
    }

    private void findMeant(Reading r) {
        Word second = words.get(r.words.get(1));
        int third = r.words.get(2);
        int room = third < 0 ? folk[speaker] : words.get(third).number;
        for (int t = 0; t < things.size(); t++) {
            Thing it = things.get(t);
            boolean named = second.kind == 3 ? last.contains(t) : it.sort == second.number && it.room == room;
            if (named && r.verbState <= it.top()) r.meant.add(t);
        }
    }

    private static int bits(Iterable<Integer> set) {
        int bits = 0;
        for (int t : set) bits |= 1 << t;
        return bits;
    }

    int reading(int i, int what) {
        if (i < 0 || out(what, 0, 4)) return BAD;
        if (readings == null || i >= readings.size()) return NONE;
        Reading r = readings.get(i);
        if (what == 0) return r.price;
        if (what == 4) return bits(r.meant);
        int w = r.words.get(what - 1);
        return w < 0 ? NONE : w;
    }

    private int[] makes(Reading r) {
        int[] s = states();
        for (int t : r.meant) s[t] = r.verbState;
        return s;
    }

    private List<Reading> opens() { return readings.stream().filter(r -> r.open).toList(); }

    int open() {
        if (readings == null) return NO;
        Set<String> unlike = new HashSet<>();
        for (Reading r : opens()) unlike.add(Arrays.toString(makes(r)));
        return unlike.size();
    }

    int ask() {
        if (readings == null) return NO;
        if (open() < 2) return NONE;
        int best = 0, least = 99;
        for (int part = 0; part < 3; part++) {
            Map<Integer, Integer> by = new HashMap<>();
            for (Reading r : opens()) by.merge(r.words.get(part), 1, Integer::sum);
            int most = by.values().stream().max(Integer::compare).orElse(0);
            if (most < least) {
                least = most;
                best = part;
            }
        }
        return best;
    }

    int answer(int part, int word) {
        if (out(part, 0, 2) || out(word, part == 2 ? -1 : 0, words.size() - 1)) return BAD;
        if (readings == null) return NO;
        List<Reading> left = opens().stream().filter(r -> r.words.get(part) == word).toList();
        if (left.isEmpty()) return NO;
        for (Reading r : readings) r.open = left.contains(r);
        return left.size();
    }

    int done() {
        if (readings == null || open() != 1) return NO;
        Reading r = opens().get(0);
        for (int t : r.meant) if (!mayTurn(rights, t, hour % 24)) return NO;
        if (wishes.size() == 200) return FULL;
        if (newlyBarred(states(), makes(r))) return HARM;
        Map<Integer, Integer> ahead = new TreeMap<>();
        for (int t : r.meant) if (things.get(t).state != r.verbState) ahead.put(t, things.get(t).state);
        List<Integer> row = new ArrayList<>();
        for (int t : ahead.keySet()) {
            things.get(t).state = r.verbState;
            things.get(t).why = 1000 + wishes.size();
            row.addAll(wokenBy(t, r.verbState));
        }
        for (int t = 0; t < 10; t++) if (r.meant.contains(t)) addLog(t, r.verbState);
        wishes.add(new Wish(ahead));
        last = r.meant;
        run(row, ahead.size());
        readings = null;
        return bits(ahead.keySet());
    }

    private void addLog(int thing, int state) {
        log.add(new Entry(speaker, hour / 24, hour % 24, thing, state));
        if (log.size() > 60) log.remove(0);
    }

    private List<Integer> wokenBy(int t, int v) {
        List<Integer> woken = new ArrayList<>();
        for (int s = 0; s < stands.size(); s++) {
            Stand it = stands.get(s);
            if (!it.byHour && it.t == t && it.v == v) woken.add(s);
        }
        return woken;
    }

    private void run(List<Integer> row, int changes) {
        while (!row.isEmpty() && changes < 30) {
            int s = row.remove(0);
            Stand it = stands.get(s);
            if (things.get(it.u).state == it.w) continue;
            int[] after = states();
            after[it.u] = it.w;
            if (newlyBarred(states(), after)) {
                held++;
                continue;
            }
            things.get(it.u).state = it.w;
            things.get(it.u).why = 2000 + s;
            changes++;
            row.addAll(wokenBy(it.u, it.w));
        }
    }

    int undo() {
        for (int k = wishes.size() - 1; k >= 0; k--) {
            if (!back.add(k)) continue;
            int got = 0;
            for (Map.Entry<Integer, Integer> e : wishes.get(k).ahead.entrySet()) {
                Thing it = things.get(e.getKey());
                if (it.why != 1000 + k) continue;
                it.state = e.getValue();
                it.why = 3000 + k;
                got |= 1 << e.getKey();
            }
            return got;
        }
        return NO;
    }

    private int stand(Stand s) {
        if (stands.size() == 8) return FULL;
        stands.add(s);
        return stands.size() - 1;
    }

    int when(int t, int v, int u, int w) {
        return noState(t, v) || noState(u, w) ? BAD : stand(new Stand(false, t, v, u, w));
    }

    int at(int h, int u, int w) {
        return out(h, 0, 23) || noState(u, w) ? BAD : stand(new Stand(true, 0, h, u, w));
    }

    int ticks(int n) {
        if (out(n, 1, 100)) return BAD;
        for (int k = 0; k < n; k++) {
            for (Thing t : things) t.spent += t.state * t.cost;
            hour++;
            List<Integer> row = new ArrayList<>();
            for (int s = 0; s < stands.size(); s++) {
                if (stands.get(s).byHour && stands.get(s).v == hour % 24) row.add(s);
            }
            run(row, 0);
        }
        return hour;
    }

    int quarrel() {
        for (int a = 0; a < stands.size(); a++) {
            for (int b = a + 1; b < stands.size(); b++) {
                Stand p = stands.get(a), q = stands.get(b);
                if (p.byHour == q.byHour && p.t == q.t && p.v == q.v && p.u == q.u && p.w != q.w) return 10 * a + b;
            }
        }
        return NONE;
    }

    int wake() {
        for (int s = 0; s < stands.size(); s++) {
            Set<Integer> reached = new HashSet<>();
            List<Integer> todo = new ArrayList<>(List.of(s));
            while (!todo.isEmpty()) {
                Stand it = stands.get(todo.remove(0));
                for (int next : wokenBy(it.u, it.w)) if (reached.add(next)) todo.add(next);
            }
            if (reached.contains(s)) return s;
        }
        return NONE;
    }

    int show() {
        int least = fewest(states(), new HashSet<>(), bars(states()));
        return least > 8 ? NONE : least;
    }

    private int fewest(int[] from, Set<Integer> fired, Set<Integer> now) {
        int least = 99;
        for (int s = 0; s < stands.size(); s++) {
            if (!stands.get(s).byHour || fired.contains(s)) continue;
            int[] states = from.clone();
            fired.add(s);
            least = Math.min(least, fireBreaks(s, states, now) ? 1 : 1 + fewest(states, fired, now));
            fired.remove(s);
            if (least == 1) return 1;
        }
        return least;
    }

    private boolean fireBreaks(int first, int[] states, Set<Integer> now) {
        List<Integer> row = new ArrayList<>(List.of(first));
        for (int changes = 0; !row.isEmpty() && changes < 30; ) {
            Stand it = stands.get(row.remove(0));
            if (states[it.u] == it.w) continue;
            states[it.u] = it.w;
            changes++;
            if (!now.containsAll(bars(states))) return true;
            row.addAll(wokenBy(it.u, it.w));
        }
        return false;
    }

    int habits(int d, int m, int i) {
        if (out(d, 1, 14) || out(m, 1, d) || i < -1) return BAD;
        Map<Integer, Set<Integer>> days = new TreeMap<>();
        for (Entry e : log) {
            if (e.day > hour / 24 - d) {
                days.computeIfAbsent(100 * e.hour + 10 * e.thing + e.state, k -> new HashSet<>()).add(e.day);
            }
        }
        List<Integer> told = new ArrayList<>();
        days.forEach((k, on) -> { if (on.size() >= m) told.add(k); });
        if (i == -1) return told.size();
        return i < told.size() ? told.get(i) : NONE;
    }

    int keepHabit(int told) {
        return told < 0 ? BAD : at(told / 100, told / 10 % 10, told % 10);
    }

    int forget(int f) {
        if (out(f, 0, 5)) return BAD;
        int was = log.size();
        log = new ArrayList<>(log.stream().filter(e -> e.who != f).toList());
        forgotten += was - log.size();
        return was - log.size();
    }

    int cost(int t) {
        if (t == -1) return things.stream().mapToInt(k -> k.spent).sum();
        return noThing(t) ? BAD : things.get(t).spent;
    }

    int why(int t) { return noThing(t) ? BAD : things.get(t).why; }

    int count(int what) {
        int[] all = {things.size(), words.size(), text.length(), items.size(), stands.size(), held, wishes.size(),
            log.size(), hour, forgotten};
        return out(what, 0, 9) ? BAD : all[what];
    }
}
