import java.util.ArrayDeque;
import java.util.ArrayList;
import java.util.Arrays;
import java.util.Deque;
import java.util.List;

/**
 * The document once more, in its plainest words and without thrift, to hold the class against.
 * It shares no code and, where there is a choice, no method of working with the class.
 */
public final class PlainModel {
    static final int BAD = -1000000001, NO = -1000000002, FULL = -1000000003, NONE = -1000000005;
    static final int NOTHING = -1000000011, KIND = -1000000012, INDEX = -1000000013, SIZE = -1000000014;

    record Law(int key, List<String> words, int pieces) { }

    /** What an image keeps. */
    static final class World {
        List<int[]> clocks = new ArrayList<>();
        int ear = 100, noise, heard, missed, mistaken, minute, z = 1;
        List<Integer> notes = new ArrayList<>();
        List<Law> laws = new ArrayList<>();

        World twin() {
            World w = new World();
            for (int[] c : clocks) w.clocks.add(c.clone());
            w.ear = ear; w.noise = noise; w.heard = heard; w.missed = missed;
            w.mistaken = mistaken; w.minute = minute; w.z = z;
            w.notes.addAll(notes);
            w.laws.addAll(laws);
            return w;
        }
    }

    private World w = new World();
    private World image = null;
    private final Integer[][] sheets = new Integer[4][];
    private final boolean[] floats = new boolean[4];
    private final Object[] slots = new Object[5];
    private final List<Integer> waiting = new ArrayList<>();
    private final StringBuilder tape = new StringBuilder();

    // ---- clocks

    static boolean in(int v, int low, int high) { return v >= low && v <= high; }

    boolean isClock(int c) { return in(c, 0, w.clocks.size() - 1); }

    static Law law(World w, int key) {
        Law last = null;
        for (Law l : w.laws) if (l.key() == key) last = l;
        return last;
    }

    static int hourStrokes(int kind, int h) {
        if (kind == 3) return h + 4;
        if (kind == 4) return h / 5 + h % 5;
        return h;
    }

    static int strokes(World w, int[] clock, int time) {
        int own = ((time - clock[1]) % 720 + 720) % 720;
        int h = own / 60 == 0 ? 12 : own / 60;
        int m = own % 60;
        if (m == 0) return hourStrokes(clock[0], h);
        if (clock[0] == 1 || clock[0] == 3) return m == 15 ? 1 : m == 30 ? 2 : m == 45 ? 3 : 0;
        if (clock[0] == 5) return m == 30 ? 1 : 0;
        if ((clock[0] == 2 || clock[0] == 4) && m <= 14) {
            Law law = law(w, 0);
            int again = law == null ? 2 : value(law.words(), 0, law.words().size(), "oth", clock[1], clock[2], h);
            if (again < 1) again = 1;
            if (again > 14) again = 14;
            return m == again ? hourStrokes(clock[0], h) : 0;
        }
        return 0;
    }

    static int total(World w, int time) {
        int sum = 0;
        for (int[] c : w.clocks) sum += strokes(w, c, ((time % 720) + 720) % 720);
        return sum;
    }

    static int worth(int[] c) {
        switch (c[0]) {
            case 0: return c[1];
            case 1: return c[1] + 4;
            case 3: return (c[1] + 4) * 2;
            case 2: return 60 - c[1];
            case 4: return 55 - c[1];
            default: return 2;
        }
    }

    static boolean isA(int kind, int wanted) {
        return wanted == 0 || kind == wanted || wanted == 1 && kind == 3 || wanted == 2 && kind == 4;
    }

    public int clock(int kind, int off, int tone) {
        if (!in(kind, 0, 5) || !in(off, 0, 59) || !in(tone, 0, 9)) return BAD;
        if (w.clocks.size() == 6) return FULL;
        w.clocks.add(new int[] {kind, off, tone});
        return w.clocks.size() - 1;
    }

    public int told(int clock, int what) {
        if (!isClock(clock) || !in(what, 0, 5)) return BAD;
        int[] c = w.clocks.get(clock);
        if (what < 3) return c[what];
        if (what == 3) return strokes(w, c, w.minute % 720);
        if (what == 5) return worth(c);
        int sum = 0;
        for (int t = 0; t < 720; t++) sum += strokes(w, c, t);
        return sum;
    }

    public int as(int clock, int kind) {
        if (!isClock(clock) || !in(kind, 0, 5)) return BAD;
        return isA(w.clocks.get(clock)[0], kind) ? w.clocks.get(clock)[2] : KIND;
    }

    public int turns(int clock, int kind) {
        if (!isClock(clock) || !in(kind, 0, 5)) return BAD;
        int old = w.clocks.get(clock)[0];
        w.clocks.get(clock)[0] = kind;
        return old;
    }

    public int set(int clock, int what, int v) {
        if (!isClock(clock) || !in(what, 1, 2) || !in(v, 0, what == 1 ? 59 : 9)) return BAD;
        int old = w.clocks.get(clock)[what];
        w.clocks.get(clock)[what] = v;
        return old;
    }

    public int strokes(int clock, int time) {
        return isClock(clock) && in(time, 0, 719) ? strokes(w, w.clocks.get(clock), time) : BAD;
    }

    public int total(int time) { return in(time, 0, 719) ? total(w, time) : BAD; }

    public int ear(int what, int v) {
        if (!in(what, 0, 1) || !in(v, 0, 100)) return BAD;
        int old = what == 0 ? w.ear : w.noise;
        if (what == 0) w.ear = v; else w.noise = v;
        return old;
    }

    static int draw(World w) {
        w.z = w.z * 1103515245 + 12345;
        return w.z >>> 8;
    }

    public int deal(int n) {
        if (!in(n, 1, 6)) return BAD;
        int came = 0;
        while (came < n && w.clocks.size() < 6) {
            int[] c = {draw(w) % 6, draw(w) % 10, draw(w) % 10};
            w.clocks.add(c);
            came++;
        }
        return came;
    }

    public int seed(int v) {
        int old = w.z;
        w.z = v;
        return old;
    }

    // ---- minutes

    static void pass(World w) {
        int now = 0;
        for (int[] c : w.clocks) {
            int many = strokes(w, c, w.minute % 720);
            for (int i = 0; i < many; i++) {
                if (draw(w) % 100 < w.ear) { w.heard++; now++; } else w.missed++;
            }
        }
        if (draw(w) % 100 < w.noise) { w.mistaken++; now++; }
        w.notes.add(0, now);
        if (w.notes.size() > 12) w.notes.remove(12);
        w.minute++;
    }

    public int minutes(int n) {
        if (!in(n, 1, 100)) return BAD;
        int old = w.heard;
        for (int i = 0; i < n && w.minute < 9999; i++) pass(w);
        return w.heard - old;
    }

    public int bed(int what) {
        switch (what) {
            case 0: return w.heard;
            case 1: return w.missed;
            case 2: return w.mistaken;
            case 3: return w.notes.size();
            default: return BAD;
        }
    }

    public int note(int k) {
        if (!in(k, 0, 11)) return BAD;
        return k < w.notes.size() ? w.notes.get(k) : NONE;
    }

    // ---- what time it may be

    static int[] totals(World w) {
        int[] all = new int[720];
        for (int t = 0; t < 720; t++) all[t] = total(w, t);
        return all;
    }

    static boolean fits(World w, int[] totals, int time) {
        for (int k = 0; k < w.notes.size(); k++) {
            int there = totals[(time - k + 720) % 720];
            int note = w.notes.get(k);
            if (there + (w.noise > 0 ? 1 : 0) < note) return false;
            if (w.ear == 100 && note < there) return false;
        }
        return true;
    }

    static List<Integer> fitting(World w) {
        int[] totals = totals(w);
        List<Integer> all = new ArrayList<>();
        for (int t = 0; t < 720; t++) if (fits(w, totals, t)) all.add(t);
        return all;
    }

    static boolean sure(List<Integer> times) {
        return times.stream().map(t -> t / 60).distinct().count() == 1;
    }

    public int fits(int time) {
        if (!in(time, 0, 719)) return BAD;
        return fits(w, totals(w), time) ? 1 : 0;
    }

    public int may(int what) {
        if (!in(what, 0, 3)) return BAD;
        List<Integer> all = fitting(w);
        if (what == 0) return all.size();
        if (what == 1) return all.stream().map(t -> 1 << t / 60).reduce(0, (a, b) -> a | b);
        if (what == 2) return all.isEmpty() ? NONE : all.get(0);
        return sure(all) ? 1 : 0;
    }

    public int next() {
        for (int n = 1; n <= 60; n++) if (total(w, w.minute % 720 + n - 1) > 0) return n;
        return NONE;
    }

    static int sets(World w, int time, int from, int n) {
        if (from == w.clocks.size()) return n == 0 ? 1 : 0;
        return sets(w, time, from + 1, n) + sets(w, time, from + 1, n - strokes(w, w.clocks.get(from), time));
    }

    public int parts(int time, int n) {
        return in(time, 0, 719) && n >= 0 ? sets(w, time, 0, n) : BAD;
    }

    public int astray(int what) {
        if (!in(what, 0, 1)) return BAD;
        if (w.clocks.isEmpty()) return NONE;
        int wrong = -1, most = -1;
        for (int c = 0; c < w.clocks.size(); c++) {
            World other = w.twin();
            other.clocks.remove(c);
            int many = fitting(other).size();
            if (many > most) { most = many; wrong = c; }
        }
        return what == 0 ? wrong : most;
    }

    public int right(int clock, int what) {
        if (!isClock(clock) || !in(what, 0, 1)) return BAD;
        int best = NONE, fewest = Integer.MAX_VALUE;
        for (int off = 0; off < 60; off++) {
            World other = w.twin();
            other.clocks.get(clock)[1] = off;
            int many = fitting(other).size();
            if (many >= 1 && many < fewest) { fewest = many; best = off; }
        }
        return best == NONE ? NONE : what == 0 ? best : fewest;
    }

    public int telling() {
        int[] all = totals(w);
        int longest = 0;
        for (int a = 0; a < 720; a++) {
            for (int b = a + 1; b < 720; b++) {
                if (a / 60 == b / 60) continue;
                int run = 0;
                while (run < 60 && all[(a - run + 720) % 720] == all[(b - run + 720) % 720]) run++;
                longest = Math.max(longest, run);
            }
        }
        return longest >= 60 ? NONE : longest + 1;
    }

    public int like(int sheet, int what) {
        if (!in(sheet, 0, 3) || !in(what, 0, 1)) return BAD;
        if (sheets[sheet] == null) return NOTHING;
        int[] all = totals(w);
        int best = -1, least = Integer.MAX_VALUE;
        for (int t = 0; t < 720; t++) {
            int sum = 0;
            for (int k = 0; k < sheets[sheet].length; k++) {
                if (sheets[sheet][k] != null) sum += Math.abs(sheets[sheet][k] - all[(t + k) % 720]);
            }
            if (sum < least) { least = sum; best = t; }
        }
        return what == 0 ? best : least;
    }

    // ---- what will be

    public int behind(int n, int what) {
        if (!in(n, 0, 100) || !in(what, 0, 3)) return BAD;
        World later = w.twin();
        for (int i = 0; i < n; i++) pass(later);
        return what == 0 ? later.heard : what == 1 ? later.missed : what == 2 ? later.mistaken : fitting(later).size();
    }

    public int listen() {
        World later = w.twin();
        for (int n = 0; n <= 60; n++) {
            if (sure(fitting(later))) return n;
            pass(later);
        }
        return NONE;
    }

    public int fee() {
        Law law = law(w, 1);
        return law == null ? w.heard : value(law.words(), 0, law.words().size(), "em", w.heard, w.missed, 0);
    }

    public int fine(int clock) {
        if (!isClock(clock)) return BAD;
        int[] c = w.clocks.get(clock);
        Law law = law(w, 2);
        return law == null ? c[1] : value(law.words(), 0, law.words().size(), "ot", c[1], c[2], 0);
    }

    // ---- texts

    public int feed(int a, int b, int c) {
        if (tape.length() > 84) return FULL;
        for (int v : new int[] {a, b, c}) {
            for (int i = 3; i >= 0; i--) tape.append((char) (v >> 8 * i & 255));
        }
        return tape.length();
    }

    public int trim(int n) {
        if (!in(n, 0, tape.length())) return BAD;
        tape.setLength(n);
        return n;
    }

    static int sortOf(char c) { return c >= 'a' && c <= 'z' ? 1 : c >= '0' && c <= '9' ? 2 : 0; }

    /** The words of a text with their places; a word that can stand nowhere is "?". */
    static List<String> split(String s, List<Integer> places) {
        List<String> words = new ArrayList<>();
        for (int i = 0; i < s.length(); ) {
            char c = s.charAt(i);
            int j = i + 1;
            if (c != ' ') {
                while (sortOf(c) != 0 && j < s.length() && sortOf(s.charAt(j)) == sortOf(c)) j++;
                String word = s.substring(i, j);
                boolean tight = i > 0 && sortOf(c) != 0 && sortOf(s.charAt(i - 1)) != 0;
                words.add(tight || sortOf(c) == 2 && word.length() > 4 || word.equals("?") ? "?" : word);
                places.add(i);
            }
            i = j;
        }
        return words;
    }

    /** A machine of two states (a piece is due; a piece is behind us) with a stack of what is open. */
    static int fault(List<String> words, List<Integer> places, int end) {
        if (words.isEmpty()) return end;
        List<String> keys = List.of("again", "fee", "fine");
        int key = keys.indexOf(words.get(0));
        if (key < 0) return places.get(0);
        String names = List.of("oth", "em", "ot").get(key);
        Deque<int[]> open = new ArrayDeque<>();
        int[] level = {0, 0};
        int nots = 0;
        boolean due = true;
        for (int i = 1; i < words.size(); i++) {
            String word = words.get(i);
            char c = word.charAt(0);
            if (due) {
                if (sortOf(c) == 2 || sortOf(c) == 1 && word.length() == 1 && names.indexOf(c) >= 0) {
                    nots -= level[0];
                    level[0] = 0;
                    due = false;
                } else if (c == '!' && nots < 8) {
                    nots++;
                    level[0]++;
                } else if (c == '(' && open.size() < 8) {
                    open.push(level);
                    level = new int[] {0, 0};
                } else return places.get(i);
            } else if (c == ')' && !open.isEmpty()) {
                level = open.pop();
                nots -= level[0];
                level[0] = 0;
            } else if ("<=>".indexOf(c) >= 0 && level[1] == 0) {
                level[1] = 1;
                due = true;
            } else if ("|&".indexOf(c) >= 0) {
                level[1] = 0;
                due = true;
            } else if ("+-*/".indexOf(c) >= 0) due = true;
            else return places.get(i);
        }
        return due || !open.isEmpty() ? end : -1;
    }

    public int text() {
        String s = tape.toString();
        tape.setLength(0);
        List<Integer> places = new ArrayList<>();
        List<String> words = split(s, places);
        int fault = fault(words, places, s.length());
        if (fault >= 0) return -100 - fault;
        if (w.laws.size() == 14) return FULL;
        int pieces = 0;
        for (String word : words) if (sortOf(word.charAt(0)) != 0) pieces++;
        int key = List.of("again", "fee", "fine").indexOf(words.get(0));
        w.laws.add(new Law(key, words.subList(1, words.size()), pieces - 1));
        return w.laws.size() - 1;
    }

    /** Splits at the last of the loosest signs that stand outside of brackets. */
    static int value(List<String> words, int from, int to, String names, int... given) {
        for (String signs : Arrays.asList("|", "&", "<=>", "+-", "*/")) {
            int depth = 0;
            for (int i = to - 1; i > from; i--) {
                char c = words.get(i).charAt(0);
                if (c == ')') depth++;
                if (c == '(') depth--;
                if (depth == 0 && signs.indexOf(c) >= 0) {
                    return join(c, value(words, from, i, names, given), value(words, i + 1, to, names, given));
                }
            }
        }
        char c = words.get(from).charAt(0);
        if (c == '!') return value(words, from + 1, to, names, given) == 0 ? 1 : 0;
        if (c == '(') return value(words, from + 1, to - 1, names, given);
        return sortOf(c) == 2 ? Integer.parseInt(words.get(from)) : given[names.indexOf(c)];
    }

    static int join(char sign, int a, int b) {
        if (sign == '+') return a + b;
        if (sign == '-') return a - b;
        if (sign == '*') return a * b;
        if (sign == '/') return b == 0 ? 0 : a / b;
        boolean yes = sign == '<' ? a < b : sign == '>' ? a > b : sign == '=' ? a == b
            : sign == '&' ? a != 0 & b != 0 : a != 0 | b != 0;
        return yes ? 1 : 0;
    }

    public int textTold(int text, int what) {
        if (!in(text, 0, w.laws.size() - 1) || !in(what, 0, 1)) return BAD;
        return what == 0 ? w.laws.get(text).key() : w.laws.get(text).pieces();
    }

    public int why(int key) {
        if (!in(key, 0, 2)) return BAD;
        Law law = law(w, key);
        if (law == null) return NONE;
        for (int i = 0; i < w.laws.size(); i++) if (w.laws.get(i) == law) return i;
        return NONE;
    }

    // ---- sheets, slots

    public int sheet(int sheet, int sort, int n) {
        if (!in(sheet, 0, 3) || !in(sort, -1, 1) || sort != -1 && n > 24) return BAD;
        if (sort == -1) {
            sheets[sheet] = null;
            return 0;
        }
        if (n < 0) return SIZE;
        sheets[sheet] = new Integer[n];
        Arrays.fill(sheets[sheet], 0);
        floats[sheet] = sort == 1;
        return n;
    }

    public int mark(int sheet, int place, int v) {
        if (!in(sheet, 0, 3)) return BAD;
        if (sheets[sheet] == null) return NOTHING;
        if (!in(place, 0, sheets[sheet].length - 1)) return INDEX;
        if (!floats[sheet] && v == NONE) return KIND;
        if (floats[sheet] && v != NONE && !in(v, -99999, 99999)) return BAD;
        sheets[sheet][place] = !floats[sheet] ? Integer.valueOf((short) v) : v == NONE ? null : Integer.valueOf(v);
        return 1;
    }

    public int pour(int sheet) {
        if (!in(sheet, 0, 3)) return BAD;
        if (sheets[sheet] == null) return NOTHING;
        int changed = 0;
        for (int c = 0; c < w.clocks.size() && c < sheets[sheet].length; c++) {
            Integer v = sheets[sheet][c];
            if (v == null) continue;
            int off = v < 0 ? 0 : v > 59 ? 59 : v;
            if (w.clocks.get(c)[1] != off) changed++;
            w.clocks.get(c)[1] = off;
        }
        return changed;
    }

    public int reads(int sheet) {
        if (!in(sheet, 0, 3)) return BAD;
        if (sheets[sheet] == null) return NOTHING;
        for (int i = 0; i < sheets[sheet].length; i++) {
            if (sheets[sheet][i] == null) continue;
            if (!isClock(i) || strokes(w, w.clocks.get(i), w.minute % 720) != sheets[sheet][i]) return i;
        }
        return NONE;
    }

    public int copy(int from, int place, int to, int at, int many) {
        if (!in(from, 0, 3) || !in(to, 0, 3)) return BAD;
        if (sheets[from] == null || sheets[to] == null) return NOTHING;
        if (floats[from] != floats[to]) return KIND;
        if (place < 0 || at < 0 || many < 0) return INDEX;
        if ((long) place + many > sheets[from].length || (long) at + many > sheets[to].length) return INDEX;
        Integer[] as = sheets[from].clone();
        for (int i = 0; i < many; i++) sheets[to][at + i] = as[place + i];
        return many;
    }

    private int holds(int slot) {
        Object o = slots[slot];
        return o == null ? 0 : o instanceof int[] ? 1 : o instanceof Integer[] ? 2 : 3;
    }

    public int lay(int slot, int thing, int k) {
        if (!in(slot, 0, 4) || !in(thing, 0, 3)) return BAD;
        if (thing == 1 && !isClock(k) || thing == 2 && !in(k, 0, 3)) return BAD;
        if (thing == 2 && sheets[k] == null) return NOTHING;
        int held = holds(slot);
        slots[slot] = thing == 0 ? null : thing == 1 ? w.clocks.get(k).clone()
            : thing == 2 ? sheets[k].clone() : (Object) Integer.valueOf(k);
        return held;
    }

    public int ask(int slot, int kind) {
        if (!in(slot, 0, 4) || !in(kind, 0, 5)) return BAD;
        if (slots[slot] == null) return NOTHING;
        return slots[slot] instanceof int[] c && isA(c[0], kind) ? worth(c) : KIND;
    }

    public int item(int slot, int place) {
        if (!in(slot, 0, 4)) return BAD;
        if (slots[slot] == null) return NOTHING;
        if (!(slots[slot] instanceof Integer[] row)) return KIND;
        if (!in(place, 0, row.length - 1)) return INDEX;
        return row[place] == null ? KIND : row[place];
    }

    public int rest(int slot, int n) {
        if (!in(slot, 0, 4)) return BAD;
        if (slots[slot] == null) return NOTHING;
        if (!(slots[slot] instanceof Integer v)) return KIND;
        return n == 0 ? NO : v % n;
    }

    // ---- rows, images

    public int tell(int v) {
        if (waiting.size() == 60) return FULL;
        waiting.add(v);
        return waiting.size();
    }

    public int check(int n) {
        List<Integer> told = new ArrayList<>(waiting);
        waiting.clear();
        if (!in(n, 1, 30)) return BAD;
        if (image == null) return NO;
        World then = image.twin();
        List<Integer> due = new ArrayList<>();
        for (int i = 0; i < n && then.minute < 9999; i++) {
            pass(then);
            due.add(then.heard);
            due.add(then.notes.get(0));
        }
        if (told.equals(due)) return 0;
        int same = 0;
        while (same < told.size() && same < due.size() && told.get(same).equals(due.get(same))) same++;
        return 1 + same;
    }

    public int keep() {
        image = w.twin();
        return w.clocks.size();
    }

    public int back() {
        if (image == null) return NO;
        w = image.twin();
        return w.clocks.size();
    }

    public int count(int what) {
        switch (what) {
            case 0: return w.clocks.size();
            case 1: return w.minute;
            case 2: return w.ear;
            case 3: return w.noise;
            case 4: return w.laws.size();
            case 5: return waiting.size();
            case 6: return tape.length();
            case 7: return w.z;
            default: return BAD;
        }
    }

    /** What the image would have told, for runs that tell it right. */
    List<Integer> minutesTold(int n) {
        List<Integer> due = new ArrayList<>();
        if (image == null) return due;
        World then = image.twin();
        for (int i = 0; i < n && then.minute < 9999; i++) {
            pass(then);
            due.add(then.heard);
            due.add(then.notes.get(0));
        }
        return due;
    }
}
