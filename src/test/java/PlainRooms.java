import java.util.ArrayList;
import java.util.List;

/**
 * The document once more, as slowly and plainly as can be: every world is tried, every change is made
 * on a copy. Only for comparing answers.
 */
public final class PlainRooms {
    private static final int BAD = -1, FULL = -2, NONE = -3, STATE = -4;
    private static final long NO = -1000000000000L;

    private static final class Paper {
        int kind;
        int evening;
        int a;
        List<Integer> signs = new ArrayList<>();

        Paper copy() {
            Paper p = new Paper();
            p.kind = kind;
            p.evening = evening;
            p.a = a;
            p.signs = new ArrayList<>(signs);
            return p;
        }

        long worth(int b) {
            long w = 0;
            int n = signs.size();
            if (kind == 1) return n;
            if (kind == 5) return -n;
            for (int i = 0; i < n; i++) {
                int by = b;
                if (kind == 2 && i >= a) by = b + 1;
                if (kind == 3 && i >= a) by = b - 1;
                w = w * by + signs.get(kind == 4 ? n - 1 - i : i);
            }
            return w;
        }

        boolean can(int b) {
            for (int i = 0; i < signs.size(); i++) {
                int s = signs.get(i);
                int by = b;
                if (kind == 2 && i >= a) by = b + 1;
                if (kind == 3 && i >= a) by = b - 1;
                if (kind == 1 || kind == 5 ? s != 1 : s >= by) return false;
            }
            return true;
        }
    }

    private static final class State {
        int[][] evenings = {{2, 16}, {2, 16}, {2, 16}};
        List<Paper> notes = new ArrayList<>();
        List<int[]> lines = new ArrayList<>();
        int z = 1;

        State copy() {
            State s = new State();
            for (int e = 0; e < 3; e++) s.evenings[e] = evenings[e].clone();
            for (Paper p : notes) s.notes.add(p.copy());
            for (int[] l : lines) s.lines.add(l.clone());
            s.z = z;
            return s;
        }

        boolean holds(int[] l, int[] w) {
            long x = notes.get(l[1]).worth(w[notes.get(l[1]).evening]);
            if (l[0] == 3) return x % l[3] == 0;
            long y = notes.get(l[2]).worth(w[notes.get(l[2]).evening]);
            if (l[0] == 0) return x == y;
            if (l[0] == 1) return x > y;
            return x + y == notes.get(l[3]).worth(w[notes.get(l[3]).evening]);
        }

        List<int[]> worlds(int set, boolean first) {
            List<int[]> all = new ArrayList<>();
            for (int a = evenings[0][0]; a <= evenings[0][1]; a++) {
                for (int b = evenings[1][0]; b <= evenings[1][1]; b++) {
                    for (int c = evenings[2][0]; c <= evenings[2][1]; c++) {
                        int[] w = {a, b, c};
                        if (isWorld(w, set)) all.add(w);
                        if (first && !all.isEmpty()) return all;
                    }
                }
            }
            return all;
        }

        boolean isWorld(int[] w, int set) {
            for (Paper p : notes) {
                if (!p.can(w[p.evening])) return false;
            }
            for (int l = 0; l < lines.size(); l++) {
                if ((set >> l & 1) != 0 && !holds(lines.get(l), w)) return false;
            }
            return true;
        }

        boolean any(int set) {
            return !worlds(set, true).isEmpty();
        }
    }

    private static final class Fault extends Exception {
        final int place;

        Fault(int place) {
            this.place = place;
        }
    }

    private static final class Parted extends RuntimeException {
    }

    private List<Integer> tape = new ArrayList<>();
    private State s = new State();
    private State kept = null;
    private List<long[]> rows = new ArrayList<>();
    private final Object[] sheets = new Object[4];
    private final Object[] shelves = new Object[4];
    private List<Integer> traced = new ArrayList<>();

    private static boolean in(long v, long a, long b) {
        return a <= v && v <= b;
    }

    private Paper paper(int n) {
        return in(n, 0, s.notes.size() - 1) ? s.notes.get(n) : null;
    }

    public int feed(long eight, int n) {
        if (!in(n, 1, 8)) return BAD;
        if (tape.size() + n > 200) return FULL;
        for (int i = 0; i < n; i++) {
            tape.add((int) (eight & 255));
            eight >>= 8;
        }
        return tape.size();
    }

    // ---- the text: words first, then a small grammar over them

    private record Word(int at, char sort, String text) {
        int number() {
            return sort == '9' && text.length() <= 2 ? Integer.parseInt(text) : -1;
        }
    }

    private List<Word> words(List<Integer> bytes) {
        StringBuilder b = new StringBuilder();
        for (int x : bytes) b.append((char) x);
        List<Word> all = new ArrayList<>();
        java.util.regex.Matcher m = java.util.regex.Pattern.compile("([a-z]+)|([0-9]+)|( +)|(.)", java.util.regex.Pattern.DOTALL).matcher(b);
        while (m.find()) {
            if (m.group(3) != null) continue;
            all.add(new Word(m.start(), m.group(1) != null ? 'a' : m.group(2) != null ? '9' : '.', m.group()));
        }
        all.add(new Word(bytes.size(), 'e', ""));
        return all;
    }

    private int at;

    private int num(List<Word> w, int low, int high) throws Fault {
        int n = w.get(at).number();
        if (!in(n, low, high) || n < 0) throw new Fault(w.get(at).at());
        at++;
        return n;
    }

    private void sign(List<Word> w, String text) throws Fault {
        if (!w.get(at).text().equals(text)) throw new Fault(w.get(at).at());
        at++;
    }

    private State parse(List<Word> w) throws Fault {
        State t = new State();
        t.z = s.z;
        at = 0;
        while (w.get(at).sort() != 'e') {
            Word head = w.get(at);
            int kind = List.of("note", "strokes", "broken", "left", "turned", "debt").indexOf(head.text());
            int sort = List.of("same", "more", "sum", "whole").indexOf(head.text());
            at++;
            if (kind >= 0 && t.notes.size() < 6) {
                Paper p = new Paper();
                p.kind = kind;
                p.evening = num(w, 0, 2);
                if (w.get(at).text().equals("at")) {
                    at++;
                    p.a = num(w, 0, 6);
                }
                sign(w, ":");
                p.signs.add(num(w, 0, 15));
                while (w.get(at).text().equals(",")) {
                    at++;
                    if (p.signs.size() == 6) throw new Fault(w.get(at).at());
                    p.signs.add(num(w, 0, 15));
                }
                sign(w, ";");
                t.notes.add(p);
            } else if (head.text().equals("evening")) {
                int e = num(w, 0, 2);
                int least = num(w, 2, 16);
                int most = num(w, least, 16);
                sign(w, ";");
                t.evenings[e] = new int[] {least, most};
            } else if (sort >= 0 && t.lines.size() < 6) {
                int top = t.notes.size() - 1;
                int[] l = {sort, num(w, 0, top), 0, 0};
                if (sort < 3) l[2] = num(w, 0, top);
                if (sort == 2) l[3] = num(w, 0, top);
                if (sort == 3) l[3] = num(w, 1, 99);
                sign(w, ";");
                t.lines.add(l);
            } else {
                throw new Fault(head.at());
            }
        }
        return t;
    }

    public int valley() {
        List<Integer> bytes = tape;
        tape = new ArrayList<>();
        try {
            s = parse(words(bytes));
        } catch (Fault f) {
            return -100 - f.place;
        }
        rows = new ArrayList<>();
        return s.notes.size();
    }

    public int evening(int e, int least, int most) {
        if (!in(e, 0, 2) || !in(least, 2, 16) || !in(most, 2, 16) || most < least) return BAD;
        s.evenings[e] = new int[] {least, most};
        return 1;
    }

    public int eveningOf(int e, int what) {
        if (!in(e, 0, 2) || !in(what, 0, 2)) return BAD;
        if (what < 2) return s.evenings[e][what];
        int set = 0;
        for (int i = 0; i < s.notes.size(); i++) set += s.notes.get(i).evening == e ? 1 << i : 0;
        return set;
    }

    public int note(int kind, int evening, int a, int n, int signs) {
        if (!in(kind, 0, 5) || !in(evening, 0, 2) || !in(a, 0, 6) || !in(n, 1, 6) || signs < 0) return BAD;
        if (s.notes.size() == 6) return FULL;
        Paper p = new Paper();
        p.kind = kind;
        p.evening = evening;
        p.a = a;
        for (int i = 0; i < n; i++) {
            p.signs.add(0, signs % 16);
            signs /= 16;
        }
        s.notes.add(p);
        return s.notes.size() - 1;
    }

    public int noteOf(int note, int what) {
        Paper p = paper(note);
        if (p == null) return BAD;
        if (what == 0) return p.kind;
        if (what == 1) return p.evening;
        if (what == 2) return p.a;
        if (what == 3) return p.signs.size();
        return in(what, 10, 9 + p.signs.size()) ? p.signs.get(what - 10) : BAD;
    }

    public int alter(int note, int place, int sign) {
        Paper p = paper(note);
        if (p == null || !in(place, 0, p.signs.size() - 1) || !in(sign, 0, 15)) return BAD;
        return p.signs.set(place, sign);
    }

    public int move(int note, int evening) {
        Paper p = paper(note);
        if (p == null || !in(evening, 0, 2)) return BAD;
        int was = p.evening;
        p.evening = evening;
        return was;
    }

    public long worth(int note, int base) {
        return paper(note) == null || !in(base, 2, 16) ? NO : paper(note).worth(base);
    }

    public int can(int note) {
        if (paper(note) == null) return BAD;
        int set = 0;
        for (int b = 2; b <= 16; b++) set += paper(note).can(b) ? 1 << b : 0;
        return set;
    }

    public int line(int sort, int x, int y, int z) {
        if (!in(sort, 0, 3) || paper(x) == null) return BAD;
        if (sort < 3 && paper(y) == null || sort == 2 && paper(z) == null) return BAD;
        if (sort == 3 && !in(z, 1, 99)) return BAD;
        if (s.lines.size() == 6) return FULL;
        s.lines.add(new int[] {sort, x, sort < 3 ? y : 0, sort >= 2 ? z : 0});
        return s.lines.size() - 1;
    }

    public int lineOf(int line, int what) {
        return in(line, 0, s.lines.size() - 1) && in(what, 0, 3) ? s.lines.get(line)[what] : BAD;
    }

    public int strike(int line) {
        if (!in(line, 0, s.lines.size() - 1)) return BAD;
        s.lines.remove(line);
        return s.lines.size();
    }

    public int worlds() {
        return s.worlds(63, false).size();
    }

    public int world(int k, int evening) {
        if (!in(evening, 0, 2)) return BAD;
        List<int[]> all = s.worlds(63, false);
        return in(k, 0, all.size() - 1) ? all.get(k)[evening] : NONE;
    }

    public int may(int evening) {
        if (!in(evening, 0, 2)) return BAD;
        int set = 0;
        for (int[] w : s.worlds(63, false)) set |= 1 << w[evening];
        return set;
    }

    public int sure(int evening) {
        int set = may(evening);
        if (set == BAD) return BAD;
        for (int b = 2; b <= 16; b++) {
            if (set == 1 << b) return b;
        }
        return NONE;
    }

    public int holds(int line, int a, int b, int c) {
        if (!in(line, 0, s.lines.size() - 1) || !in(a, 2, 16) || !in(b, 2, 16) || !in(c, 2, 16)) return BAD;
        return s.holds(s.lines.get(line), new int[] {a, b, c}) ? 1 : 0;
    }

    public int proof() {
        if (s.any(63)) return NONE;
        int best = -1;
        for (int set = 0; set < 1 << s.lines.size(); set++) {
            if (best >= 0 && Integer.bitCount(set) >= Integer.bitCount(best)) continue;
            if (!s.any(set)) best = set;
        }
        return best;
    }

    public int mended(int what) {
        if (!in(what, 0, 2)) return BAD;
        if (s.any(63)) return STATE;
        for (int n = 0; n < s.notes.size(); n++) {
            for (int p = 0; p < s.notes.get(n).signs.size(); p++) {
                for (int v = 0; v < 16; v++) {
                    State t = s.copy();
                    t.notes.get(n).signs.set(p, v);
                    if (t.any(63)) return new int[] {n, p, v}[what];
                }
            }
        }
        return NONE;
    }

    public int which(int note) {
        if (paper(note) == null) return BAD;
        int set = 0;
        for (int e = 0; e < 3; e++) {
            State t = s.copy();
            t.notes.get(note).evening = e;
            set += t.any(63) ? 1 << e : 0;
        }
        return set;
    }

    public long gain(int note, int from, int to) {
        if (worth(note, from) == NO || worth(note, to) == NO) return NO;
        return worth(note, to) - worth(note, from);
    }

    public int written(int v, int base, int i) {
        if (!in(v, 0, 9999) || !in(base, 2, 16) || i < -1) return BAD;
        String t = Integer.toString(v, base);
        if (i == -1) return t.length();
        return in(i, 0, t.length() - 1) ? Character.digit(t.charAt(i), 16) : NONE;
    }

    private static List<Integer> bases(int set) {
        List<Integer> all = new ArrayList<>();
        for (int b = 0; b < 32; b++) {
            if ((set >>> b & 1) != 0) all.add(b);
        }
        for (int b : all) {
            if (!in(b, 2, 16)) return List.of();
        }
        return all;
    }

    public int alike(int set, int from) {
        if (bases(set).isEmpty() || !in(from, 0, 9999)) return BAD;
        for (int v = from; v <= 9999; v++) {
            final int w = v;
            if (bases(set).stream().map(b -> Integer.toString(w, b)).distinct().count() == 1) return v;
        }
        return NONE;
    }

    public int shortest(int v, int set) {
        if (bases(set).isEmpty() || !in(v, 0, 9999)) return BAD;
        return bases(set).stream().min(java.util.Comparator.comparing((Integer b) -> Integer.toString(v, b).length())
                .thenComparing(b -> b)).get();
    }

    public int add(int x, int y) {
        if (paper(x) == null || paper(y) == null) return BAD;
        if (paper(x).kind != 0 || paper(y).kind != 0) return STATE;
        List<Integer> one = new ArrayList<>(paper(x).signs);
        List<Integer> two = new ArrayList<>(paper(y).signs);
        while (one.size() < two.size()) one.add(0, 0);
        while (two.size() < one.size()) two.add(0, 0);
        Paper p = new Paper();
        p.evening = paper(x).evening;
        for (int i = 0; i < one.size(); i++) p.signs.add(one.get(i) + two.get(i));
        if (p.signs.stream().anyMatch(v -> v > 15)) return STATE;
        if (s.notes.size() == 6) return FULL;
        s.notes.add(p);
        return s.notes.size() - 1;
    }

    public int seed(int v) {
        int was = s.z;
        s.z = v;
        return was;
    }

    public int guess() {
        int n = worlds();
        if (n == 0) return NONE;
        s.z = s.z * 1103515245 + 12345;
        return (s.z >>> 16) % n;
    }

    public int prove(int k) {
        List<int[]> all = s.worlds(63, false);
        if (!in(k, 0, all.size() - 1)) return NONE;
        rows = new ArrayList<>();
        for (int i = 0; i < s.notes.size(); i++) {
            int b = all.get(k)[s.notes.get(i).evening];
            rows.add(new long[] {i, b, s.notes.get(i).worth(b)});
        }
        return rows.size();
    }

    public long row(int i, int what) {
        return in(i, 0, rows.size() - 1) && in(what, 0, 2) ? rows.get(i)[what] : NO;
    }

    public long alterRow(int i, int what, long v) {
        if (row(i, what) == NO && !(in(i, 0, rows.size() - 1) && in(what, 0, 2))) return NO;
        long was = rows.get(i)[what];
        rows.get(i)[what] = v;
        return was;
    }

    public int judge() {
        int[] told = new int[3];
        for (int i = 0; i < rows.size(); i++) {
            long[] r = rows.get(i);
            if (i >= s.notes.size() || r[0] != i) return i + 1;
            Paper p = s.notes.get(i);
            if (!in(r[1], s.evenings[p.evening][0], s.evenings[p.evening][1])) return i + 1;
            int b = (int) r[1];
            if (told[p.evening] != 0 && told[p.evening] != b) return i + 1;
            if (!p.can(b) || p.worth(b) != r[2]) return i + 1;
            told[p.evening] = b;
        }
        if (rows.size() < s.notes.size()) return 222;
        for (int l = 0; l < s.lines.size(); l++) {
            if (!s.holds(s.lines.get(l), told)) return 300 + l;
        }
        return 0;
    }

    public int signs(int note, int sheet, int i, int n) {
        if (paper(note) == null || !in(sheet, 0, 3) || !in(n, 0, 6) || paper(note).signs.size() < n) return BAD;
        if (sheets[sheet] == null) return -11;
        if (!(sheets[sheet] instanceof byte[] row)) return -13;
        if (i < 0 || (long) i + n > row.length) return -12;
        for (int k = 0; k < n; k++) paper(note).signs.set(k, Math.max(0, Math.min(15, row[i + k])));
        return n;
    }

    public int sheet(int sheet, int sort, int n) {
        if (!in(sheet, 0, 3) || !in(sort, -1, 3) || sort >= 0 && n > 40) return BAD;
        if (sort >= 0 && n < 0) return -14;
        sheets[sheet] = switch (sort) {
            case 0 -> new byte[n];
            case 1 -> new short[n];
            case 2 -> new int[n];
            case 3 -> new long[n];
            default -> null;
        };
        return 1;
    }

    private static int sortOf(Object row) {
        return row instanceof byte[] ? 0 : row instanceof short[] ? 1 : row instanceof int[] ? 2 : 3;
    }

    public int put(int sheet, int i, int v) {
        if (!in(sheet, 0, 3)) return BAD;
        Object row = sheets[sheet];
        if (row == null) return -11;
        if (!in(i, 0, java.lang.reflect.Array.getLength(row) - 1)) return -12;
        if (row instanceof byte[] b) b[i] = (byte) v;
        if (row instanceof short[] b) b[i] = (short) v;
        if (row instanceof int[] b) b[i] = v;
        if (row instanceof long[] b) b[i] = v;
        return 1;
    }

    public int item(int sheet, int sort, int i) {
        if (!in(sheet, 0, 3) || !in(sort, 0, 3)) return BAD;
        Object row = sheets[sheet];
        if (row == null) return -11;
        if (sortOf(row) != sort) return -13;
        if (!in(i, 0, java.lang.reflect.Array.getLength(row) - 1)) return -12;
        return (int) java.lang.reflect.Array.getLong(row, i);
    }

    public int shelf(int shelf, int what, int n) {
        if (!in(shelf, 0, 3) || !in(what, 0, 2)) return BAD;
        if (what == 0 && paper(n) == null || what == 1 && !in(n, 0, 3)) return BAD;
        shelves[shelf] = what == 0 ? (Object) Integer.valueOf(n) : what == 1 ? sheets[n] : null;
        return 1;
    }

    /** The thing on a shelf: a number of a note, a row, or nothing. */
    private Object thing(int shelf) {
        return shelves[shelf] instanceof Integer n && paper(n) == null ? null : shelves[shelf];
    }

    public int taken(int shelf, int as) {
        if (!in(shelf, 0, 3) || !in(as, 0, 5) && !in(as, 10, 13)) return BAD;
        Object thing = thing(shelf);
        if (thing == null) return -11;
        if (thing instanceof Integer n) return isUnder(paper(n).kind, as) ? n : -13;
        return sortOf(thing) == as - 10 ? java.lang.reflect.Array.getLength(thing) : -13;
    }

    private static final int[] ABOVE = {-1, 0, 0, 2, 0, 1};

    private static boolean isUnder(int kind, int as) {
        for (int k = kind; k >= 0; k = ABOVE[k]) {
            if (k == as) return true;
        }
        return false;
    }

    public int act(int shelf, int act, int x) {
        traced = new ArrayList<>();
        if (!in(shelf, 0, 3) || !in(act, 0, 3) || !(thing(shelf) instanceof Integer n)) return 0;
        try {
            return body(paper(n).kind, act, x, n, paper(n));
        } catch (Parted p) {
            return -15;
        }
    }

    /** An act as it stands with a kind, or else with the kind above it. */
    private int body(int kind, int act, int x, int n, Paper p) {
        int above = ABOVE[kind];
        int me = p.kind;
        String which = kind + "" + act;
        switch (which) {
            case "00": traced.add(10); return x + n;
            case "01": traced.add(11); return body(me, 0, x, n, p) * 2;
            case "02": traced.add(12);
                if (p.a == n) throw new Parted();
                return x / (p.a - n);
            case "03": traced.add(13); return body(me, 1, x, n, p) ^ p.a;
            case "11": traced.add(20); return body(above, 1, x, n, p) - p.a;
            case "20": traced.add(30); return body(above, 0, x, n, p) * 3;
            case "23": traced.add(31); return body(above, 3, x, n, p) + body(me, 2, n, n, p);
            case "30": traced.add(40); return 0 - body(above, 0, x, n, p);
            case "31": traced.add(41); return body(above, 1, x, n, p) + body(me, 0, n, n, p);
            case "43": traced.add(60); return body(above, 3, x, n, p) * 2;
            case "42": traced.add(61); return body(above, 2, x, n, p) + body(me, 0, p.a, n, p);
            case "52": traced.add(50); return body(above, 2, x + 2, n, p) ^ 1;
            case "50": traced.add(51); return body(above, 0, x, n, p) - n;
            default: return body(above, act, x, n, p);
        }
    }

    public int trace(int i) {
        return in(i, 0, Math.min(30, traced.size()) - 1) ? traced.get(i) : NONE;
    }

    public int many(int what) {
        int[] all = {s.notes.size(), s.lines.size(), rows.size(), tape.size(), Math.min(30, traced.size())};
        return in(what, 0, 4) ? all[what] : BAD;
    }

    public int keep() {
        kept = s.copy();
        return 1;
    }

    public int again() {
        if (kept == null) return NONE;
        s = kept.copy();
        return s.notes.size();
    }
}
