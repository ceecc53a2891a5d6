import java.util.Arrays;

/**
 * Counting by who is there: numbers are written by as many signs as there are people in the room.
 * What each call answers is told, promise by promise, in the document of the project.
 */
public final class RoomNumbers {
    public static final int BAD = -1, FULL = -2, NONE = -3, STATE = -4;
    public static final long NO = -1000000000000L;

    private static final int NOTHING_THERE = -11, OUTSIDE = -12, OTHER_SORT = -13, SIZE_BELOW = -14, PARTED = -15;

    private static final int EVENINGS = 3, NOTES = 6, LINES = 6, SIGNS = 6;
    private static final int LEAST_BASE = 2, MOST_BASE = 16, TOP_SIGN = 15;
    /** The set of all bases, and how long a row is in which a base is its own place. */
    private static final int ALL_BASES = 131068, BY_BASE = 17;
    private static final int TAPE = 200, TOP_NUMBER = 9999;
    private static final int SHEETS = 4, SHELVES = 4, SHEET_ITEMS = 40;
    private static final int ON_SHELF_NOTE = 0, ON_SHELF_ROW = 1, ON_SHELF_NOTHING = 2;
    private static final int SAME = 0, MORE = 1, SUM = 2, WHOLE = 3;
    private static final int TOO_FEW_ROWS = 222, LINE_BROKEN = 300;

    private final int[] tape = new int[TAPE];
    private int tapeCount = 0;
    private final Finder finder = new Finder();
    private final Valley now = finder.valley;
    private final Valley kept = new Valley();
    private boolean anyKept = false;
    private int luck = 1;
    private int keptLuck = 1;
    private final Teller teller = new Teller();
    /** Three numbers a row: note, base, worth. */
    private final long[] rows = new long[NOTES * 3];
    private int rowCount = 0;
    /** By evening; the bases that a line or rows are looked at with. */
    private final int[] tried = new int[EVENINGS];
    private final SheetRow[] sheets = new SheetRow[SHEETS];
    private final int[] shelfWhat = new int[SHELVES];
    private final int[] shelfNote = new int[SHELVES];
    private final SheetRow[] shelfRow = new SheetRow[SHELVES];
    private final Trace latest = new Trace();

    public RoomNumbers() {
        Arrays.fill(shelfWhat, ON_SHELF_NOTHING);
    }

    // ---- the valley

    public int feed(long eight, int n) {
        if (!within(n, 1, 8)) return BAD;
        if (tapeCount + n > TAPE) return FULL;
        for (int i = 0; i < n; i++) tape[tapeCount + i] = (int) (eight >>> (8 * i)) & 255;
        tapeCount += n;
        return tapeCount;
    }

    public int valley() {
        int length = tapeCount;
        tapeCount = 0;
        if (!teller.told(tape, length)) return -100 - teller.start;
        now.become(teller.draft);
        rowCount = 0;
        return now.noteCount;
    }

    public int evening(int evening, int least, int most) {
        if (!isEvening(evening) || !isBase(least) || !isBase(most) || most < least) return BAD;
        now.setEvening(evening, least, most);
        return 1;
    }

    public int eveningOf(int evening, int what) {
        if (!isEvening(evening)) return BAD;
        switch (what) {
            case 0: return now.least[evening];
            case 1: return now.most[evening];
            case 2: return now.notesOf(evening);
            default: return BAD;
        }
    }

    public int note(int kind, int evening, int a, int n, int signs) {
        if (!within(kind, 0, 5) || !isEvening(evening) || !within(a, 0, 6)) return BAD;
        if (!within(n, 1, SIGNS) || signs < 0) return BAD;
        if (now.noteCount >= NOTES) return FULL;
        int[] marks = new int[n];
        for (int i = 0; i < n; i++) marks[i] = signs >> (4 * (n - 1 - i)) & TOP_SIGN;
        return now.addNote(kind, evening, a, marks);
    }

    public int noteOf(int note, int what) {
        Note it = now.noteAt(note);
        if (it == null) return BAD;
        switch (what) {
            case 0: return it.kind();
            case 1: return it.evening;
            case 2: return it.a;
            case 3: return it.marks.length;
            default: return what >= 10 && it.hasPlace(what - 10) ? it.marks[what - 10] : BAD;
        }
    }

    public int alter(int note, int place, int sign) {
        Note it = now.noteAt(note);
        if (it == null || !it.hasPlace(place) || !within(sign, 0, TOP_SIGN)) return BAD;
        int was = it.marks[place];
        it.marks[place] = sign;
        now.version++;
        return was;
    }

    public int move(int note, int evening) {
        Note it = now.noteAt(note);
        if (it == null || !isEvening(evening)) return BAD;
        int was = it.evening;
        it.evening = evening;
        now.version++;
        return was;
    }

    public long worth(int note, int base) {
        Note it = now.noteAt(note);
        return it == null || !isBase(base) ? NO : it.worthBy(base);
    }

    public int can(int note) {
        Note it = now.noteAt(note);
        return it == null ? BAD : it.basesItCanBeIn();
    }

    // ---- lines, worlds

    public int line(int sort, int x, int y, int z) {
        if (!within(sort, SAME, WHOLE) || now.noteAt(x) == null) return BAD;
        if (sort != WHOLE && now.noteAt(y) == null) return BAD;
        if (sort == SUM && now.noteAt(z) == null) return BAD;
        if (sort == WHOLE && !within(z, 1, 99)) return BAD;
        if (now.lineCount >= LINES) return FULL;
        return now.addLine(sort, x, y, z);
    }

    public int lineOf(int line, int what) {
        if (!within(line, 0, now.lineCount - 1) || !within(what, 0, 3)) return BAD;
        return now.lines[line * 4 + what];
    }

    public int strike(int line) {
        if (!within(line, 0, now.lineCount - 1)) return BAD;
        return now.strikeLine(line);
    }

    public int worlds() {
        return finder.howMany();
    }

    public int world(int k, int evening) {
        if (!isEvening(evening)) return BAD;
        return finder.goTo(k) ? finder.bases[evening] : NONE;
    }

    public int may(int evening) {
        return isEvening(evening) ? finder.basesSeen(evening) : BAD;
    }

    public int sure(int evening) {
        if (!isEvening(evening)) return BAD;
        int seen = finder.basesSeen(evening);
        return Integer.bitCount(seen) == 1 ? baseAt(seen, 0) : NONE;
    }

    public int holds(int line, int a, int b, int c) {
        if (!within(line, 0, now.lineCount - 1) || !isBase(a) || !isBase(b) || !isBase(c)) return BAD;
        tried[0] = a;
        tried[1] = b;
        tried[2] = c;
        return now.lineHolds(line, tried) ? 1 : 0;
    }

    public int proof() {
        return finder.howMany() > 0 ? NONE : finder.fewestLines();
    }

    public int mended(int what) {
        if (!within(what, 0, 2)) return BAD;
        if (finder.howMany() > 0) return STATE;
        if (!finder.canMend()) return NONE;
        switch (what) {
            case 0: return finder.mendNote;
            case 1: return finder.mendPlace;
            default: return finder.mendSign;
        }
    }

    public int which(int note) {
        return now.noteAt(note) == null ? BAD : finder.eveningsFor(note);
    }

    public long gain(int note, int from, int to) {
        Note it = now.noteAt(note);
        if (it == null || !isBase(from) || !isBase(to)) return NO;
        return it.worthBy(to) - it.worthBy(from);
    }

    // ---- numbers

    public int written(int v, int base, int i) {
        if (!within(v, 0, TOP_NUMBER) || !isBase(base) || i < -1) return BAD;
        int n = howLong(v, base);
        if (i == -1) return n;
        if (i >= n) return NONE;
        int rest = v;
        for (int k = n - 1; k > i; k--) rest /= base;
        return rest % base;
    }

    public int alike(int bases, int from) {
        if (!isSetOfBases(bases) || !within(from, 0, TOP_NUMBER)) return BAD;
        // The same two or more signs are worth more by a greater base: only a lone sign is alike in several.
        boolean alone = Integer.bitCount(bases) == 1;
        return alone || from < baseAt(bases, 0) ? from : NONE;
    }

    public int shortest(int v, int bases) {
        if (!within(v, 0, TOP_NUMBER) || !isSetOfBases(bases)) return BAD;
        int best = baseAt(bases, 0);
        for (int b = best; b <= MOST_BASE; b++) {
            if ((bases >> b & 1) != 0 && howLong(v, b) < howLong(v, best)) best = b;
        }
        return best;
    }

    public int add(int x, int y) {
        Note first = now.noteAt(x);
        Note second = now.noteAt(y);
        if (first == null || second == null) return BAD;
        if (first.kind() != 0 || second.kind() != 0) return STATE;
        int n = Math.max(first.marks.length, second.marks.length);
        int[] marks = new int[n];
        for (int i = 0; i < n; i++) {
            int sign = first.markFromLast(n - 1 - i) + second.markFromLast(n - 1 - i);
            if (sign > TOP_SIGN) return STATE;
            marks[i] = sign;
        }
        if (now.noteCount >= NOTES) return FULL;
        return now.addNote(0, first.evening, 0, marks);
    }

    public int seed(int v) {
        int was = luck;
        luck = v;
        return was;
    }

    public int guess() {
        int count = finder.howMany();
        if (count <= 0) return NONE;
        luck = luck * 1103515245 + 12345;
        return (luck >>> 16) % count;
    }

    // ---- rows

    public int prove(int k) {
        if (!finder.goTo(k)) return NONE;
        rowCount = now.noteCount;
        for (int i = 0; i < rowCount; i++) {
            Note it = now.noteAt(i);
            if (it == null) continue;
            int base = finder.bases[it.evening];
            rows[i * 3] = i;
            rows[i * 3 + 1] = base;
            rows[i * 3 + 2] = it.worthBy(base);
        }
        return rowCount;
    }

    public long row(int i, int what) {
        return hasRow(i, what) ? rows[i * 3 + what] : NO;
    }

    public long alterRow(int i, int what, long v) {
        if (!hasRow(i, what)) return NO;
        long was = rows[i * 3 + what];
        rows[i * 3 + what] = v;
        return was;
    }

    public int judge() {
        Arrays.fill(tried, 0);
        for (int i = 0; i < rowCount; i++) {
            if (!isRightRow(i)) return i + 1;
        }
        if (rowCount < now.noteCount) return TOO_FEW_ROWS;
        for (int line = 0; line < now.lineCount; line++) {
            if (!now.lineHolds(line, tried)) return LINE_BROKEN + line;
        }
        return 0;
    }

    public int signs(int note, int sheet, int i, int n) {
        Note it = now.noteAt(note);
        if (it == null || !isSheet(sheet) || !within(n, 0, it.marks.length)) return BAD;
        SheetRow row = sheets[sheet];
        if (row == null) return NOTHING_THERE;
        if (row.sort != 0) return OTHER_SORT;
        if (!within(i, 0, row.items.length - n)) return OUTSIDE;
        for (int k = 0; k < n; k++) {
            it.marks[k] = (int) Math.max(0L, Math.min((long) TOP_SIGN, row.items[i + k]));
        }
        now.version++;
        return n;
    }

    // ---- the host

    public int sheet(int sheet, int sort, int n) {
        if (!isSheet(sheet) || !within(sort, -1, 3)) return BAD;
        if (sort == -1) {
            sheets[sheet] = null;
            return 1;
        }
        if (n > SHEET_ITEMS) return BAD;
        if (n < 0) return SIZE_BELOW;
        sheets[sheet] = new SheetRow(sort, n);
        return 1;
    }

    public int put(int sheet, int i, int v) {
        if (!isSheet(sheet)) return BAD;
        SheetRow row = sheets[sheet];
        if (row == null) return NOTHING_THERE;
        if (!within(i, 0, row.items.length - 1)) return OUTSIDE;
        row.items[i] = row.narrowed(v);
        return 1;
    }

    public int item(int sheet, int sort, int i) {
        if (!isSheet(sheet) || !within(sort, 0, 3)) return BAD;
        SheetRow row = sheets[sheet];
        if (row == null) return NOTHING_THERE;
        if (row.sort != sort) return OTHER_SORT;
        if (!within(i, 0, row.items.length - 1)) return OUTSIDE;
        return (int) row.items[i];
    }

    public int shelf(int shelf, int what, int n) {
        if (!isShelf(shelf)) return BAD;
        switch (what) {
            case ON_SHELF_NOTE:
                if (now.noteAt(n) == null) return BAD;
                shelfNote[shelf] = n;
                shelfRow[shelf] = null;
                break;
            case ON_SHELF_ROW:
                if (!isSheet(n)) return BAD;
                shelfRow[shelf] = sheets[n];
                break;
            case ON_SHELF_NOTHING:
                shelfRow[shelf] = null;
                break;
            default:
                return BAD;
        }
        shelfWhat[shelf] = what;
        return 1;
    }

    public int taken(int shelf, int as) {
        boolean asRow = within(as, 10, 13);
        if (!isShelf(shelf) || !asRow && !within(as, 0, 5)) return BAD;
        Note it = noteOn(shelf);
        SheetRow row = shelfRow[shelf];
        if (it == null && row == null) return NOTHING_THERE;
        if (it != null) return !asRow && it.isOfKind(as) ? it.number : OTHER_SORT;
        return asRow && row.sort == as - 10 ? row.items.length : OTHER_SORT;
    }

    public int act(int shelf, int act, int x) {
        latest.clear();
        Note it = isShelf(shelf) ? noteOn(shelf) : null;
        if (it == null || !within(act, 0, 3)) return 0;
        int answer;
        switch (act) {
            case 0: answer = it.reads(x, latest); break;
            case 1: answer = it.writes(x, latest); break;
            case 2: answer = it.shares(x, latest); break;
            default: answer = it.tells(x, latest); break;
        }
        return latest.ended() ? PARTED : answer;
    }

    public int trace(int i) {
        return within(i, 0, latest.howMany() - 1) ? latest.bodies[i] : NONE;
    }

    public int many(int what) {
        switch (what) {
            case 0: return now.noteCount;
            case 1: return now.lineCount;
            case 2: return rowCount;
            case 3: return tapeCount;
            case 4: return latest.howMany();
            default: return BAD;
        }
    }

    // ---- kept

    public int keep() {
        kept.become(now);
        keptLuck = luck;
        anyKept = true;
        return 1;
    }

    public int again() {
        if (!anyKept) return NONE;
        now.become(kept);
        luck = keptLuck;
        return now.noteCount;
    }

    // ---- what the calls share

    private boolean hasRow(int i, int what) {
        return within(i, 0, rowCount - 1) && within(what, 0, 2);
    }

    /** Looks at one row, and remembers its base for those of the same evening that come behind. */
    private boolean isRightRow(int i) {
        Note it = now.noteAt(i);
        if (it == null || rows[i * 3] != i) return false;
        long told = rows[i * 3 + 1];
        if (told < now.least[it.evening] || told > now.most[it.evening]) return false;
        int base = (int) told;
        if (tried[it.evening] != 0 && tried[it.evening] != base) return false;
        tried[it.evening] = base;
        return it.canBeIn(base) && it.worthBy(base) == rows[i * 3 + 2];
    }

    /** The note is looked up anew each time: a number on a shelf may have lost its note meanwhile. */
    private Note noteOn(int shelf) {
        return shelfWhat[shelf] == ON_SHELF_NOTE ? now.noteAt(shelfNote[shelf]) : null;
    }

    private static boolean within(int v, int low, int high) {
        return v >= low && v <= high;
    }

    private static boolean isEvening(int v) {
        return within(v, 0, EVENINGS - 1);
    }

    private static boolean isBase(int v) {
        return within(v, LEAST_BASE, MOST_BASE);
    }

    private static boolean isSheet(int v) {
        return within(v, 0, SHEETS - 1);
    }

    private static boolean isShelf(int v) {
        return within(v, 0, SHELVES - 1);
    }

    private static boolean isSetOfBases(int set) {
        return set != 0 && (set & ~ALL_BASES) == 0;
    }

    /** The k-th base of a set (from 0), 0 if there is none. */
    private static int baseAt(int set, int k) {
        int left = k;
        for (int b = LEAST_BASE; b <= MOST_BASE; b++) {
            if ((set >> b & 1) == 0) continue;
            if (left == 0) return b;
            left--;
        }
        return 0;
    }

    /** How many signs a number has; fourteen are enough for 9999 to the base 2. */
    private static int howLong(int v, int base) {
        int n = 1;
        int rest = base < LEAST_BASE ? 0 : v / base;
        while (rest > 0 && n < 32) {
            rest /= base;
            n++;
        }
        return n;
    }

    private static boolean sortHolds(int sort, int x, int y, int z) {
        switch (sort) {
            case SAME: return x == y;
            case MORE: return x > y;
            case SUM: return x + y == z;
            default: return z != 0 && x % z == 0;
        }
    }

    // ---- things

    /** A note of kind note, and what all kinds have. */
    static class Note {
        final int number;
        final int a;
        final int[] marks;
        int evening;

        Note(int number, int evening, int a, int[] marks) {
            this.number = number;
            this.evening = evening;
            this.a = a;
            this.marks = marks;
        }

        int kind() {
            return 0;
        }

        boolean hasPlace(int place) {
            return place >= 0 && place < marks.length;
        }

        /** 0 where the note has no sign so far ahead. */
        int markFromLast(int back) {
            int place = marks.length - 1 - back;
            return hasPlace(place) ? marks[place] : 0;
        }

        boolean isOfKind(int kind) {
            switch (kind) {
                case 0: return true;
                case 1: return this instanceof Strokes;
                case 2: return this instanceof Broken;
                case 3: return this instanceof Left;
                case 4: return this instanceof Turned;
                case 5: return this instanceof Debt;
                default: return false;
            }
        }

        int worthBy(int base) {
            return grown(0, base, 0, marks.length);
        }

        boolean canBeIn(int base) {
            return allBelow(base, 0, marks.length);
        }

        int basesItCanBeIn() {
            int set = 0;
            for (int b = LEAST_BASE; b <= MOST_BASE; b++) {
                if (canBeIn(b)) set |= 1 << b;
            }
            return set;
        }

        /** What stands ahead, followed by the signs from one place to another as digits. */
        final int grown(int ahead, int base, int from, int to) {
            int worth = ahead;
            for (int i = from; i < to; i++) worth = worth * base + marks[i];
            return worth;
        }

        final boolean allBelow(int base, int from, int to) {
            for (int i = from; i < to; i++) {
                if (marks[i] >= base) return false;
            }
            return true;
        }

        int reads(int x, Trace t) {
            t.bodies[t.count++ & Trace.LAST] = 10;
            return x + number;
        }

        int writes(int x, Trace t) {
            t.bodies[t.count++ & Trace.LAST] = 11;
            return reads(x, t) * 2;
        }

        int shares(int x, Trace t) {
            t.bodies[t.count++ & Trace.LAST] = 12;
            int parts = a - number;
            if (parts != 0) return x / parts;
            t.end();
            return 0;
        }

        int tells(int x, Trace t) {
            t.bodies[t.count++ & Trace.LAST] = 13;
            return writes(x, t) ^ a;
        }
    }

    static class Strokes extends Note {
        Strokes(int number, int evening, int a, int[] marks) {
            super(number, evening, a, marks);
        }

        int kind() {
            return 1;
        }

        int worthBy(int base) {
            return marks.length;
        }

        boolean canBeIn(int base) {
            for (int i = 0; i < marks.length; i++) {
                if (marks[i] != 1) return false;
            }
            return true;
        }

        int writes(int x, Trace t) {
            t.bodies[t.count++ & Trace.LAST] = 20;
            return super.writes(x, t) - a;
        }
    }

    /** Somebody came while it was written: the signs behind the first a go by one base more. */
    static class Broken extends Note {
        Broken(int number, int evening, int a, int[] marks) {
            super(number, evening, a, marks);
        }

        int kind() {
            return 2;
        }

        int baseBehind(int base) {
            return base + 1;
        }

        int worthBy(int base) {
            int ahead = Math.min(a, marks.length);
            return grown(grown(0, base, 0, ahead), baseBehind(base), ahead, marks.length);
        }

        boolean canBeIn(int base) {
            int ahead = Math.min(a, marks.length);
            return allBelow(base, 0, ahead) && allBelow(baseBehind(base), ahead, marks.length);
        }

        int reads(int x, Trace t) {
            t.bodies[t.count++ & Trace.LAST] = 30;
            return super.reads(x, t) * 3;
        }

        int tells(int x, Trace t) {
            t.bodies[t.count++ & Trace.LAST] = 31;
            return super.tells(x, t) + shares(number, t);
        }
    }

    /** Somebody went while it was written. */
    static final class Left extends Broken {
        Left(int number, int evening, int a, int[] marks) {
            super(number, evening, a, marks);
        }

        int kind() {
            return 3;
        }

        int baseBehind(int base) {
            return base - 1;
        }

        int reads(int x, Trace t) {
            t.bodies[t.count++ & Trace.LAST] = 40;
            return 0 - super.reads(x, t);
        }

        int writes(int x, Trace t) {
            t.bodies[t.count++ & Trace.LAST] = 41;
            return super.writes(x, t) + reads(number, t);
        }
    }

    static final class Turned extends Note {
        Turned(int number, int evening, int a, int[] marks) {
            super(number, evening, a, marks);
        }

        int kind() {
            return 4;
        }

        int worthBy(int base) {
            int worth = 0;
            for (int i = marks.length - 1; i >= 0; i--) worth = worth * base + marks[i];
            return worth;
        }

        int tells(int x, Trace t) {
            t.bodies[t.count++ & Trace.LAST] = 60;
            return super.tells(x, t) * 2;
        }

        int shares(int x, Trace t) {
            t.bodies[t.count++ & Trace.LAST] = 61;
            return super.shares(x, t) + reads(a, t);
        }
    }

    static final class Debt extends Strokes {
        Debt(int number, int evening, int a, int[] marks) {
            super(number, evening, a, marks);
        }

        int kind() {
            return 5;
        }

        int worthBy(int base) {
            return 0 - super.worthBy(base);
        }

        int shares(int x, Trace t) {
            t.bodies[t.count++ & Trace.LAST] = 50;
            return super.shares(x + 2, t) ^ 1;
        }

        int reads(int x, Trace t) {
            t.bodies[t.count++ & Trace.LAST] = 51;
            return super.reads(x, t) - number;
        }
    }

    /**
     * The bodies of the latest act. No act runs more than eleven, so the places up to LAST always do;
     * bodies write into it themselves, which keeps the calls that stand open few.
     */
    static final class Trace {
        static final int LAST = 31;
        private static final int KEPT = 30, OPEN = -1;

        final int[] bodies = new int[LAST + 1];
        int count = 0;
        private int endedAt = OPEN;

        void clear() {
            count = 0;
            endedAt = OPEN;
        }

        /** The act is over here, though bodies that stand open still run to their ends. */
        void end() {
            if (endedAt == OPEN) endedAt = count;
        }

        boolean ended() {
            return endedAt != OPEN;
        }

        int howMany() {
            return Math.min(ended() ? endedAt : count, KEPT);
        }
    }

    /** A row of one sort; each item is held as a long that has been narrowed. */
    static final class SheetRow {
        final int sort;
        final long[] items;

        SheetRow(int sort, int n) {
            this.sort = sort;
            this.items = new long[Math.max(0, n)];
        }

        long narrowed(int v) {
            switch (sort) {
                case 0: return (byte) v;
                case 1: return (short) v;
                default: return v;
            }
        }
    }

    // ---- a valley

    /** Evenings, notes and lines; its version grows with each change, so that what was found can be kept. */
    static final class Valley {
        final int[] least = new int[EVENINGS];
        final int[] most = new int[EVENINGS];
        final int[] lines = new int[LINES * 4];
        int noteCount = 0;
        int lineCount = 0;
        int version = 0;
        private final Note[] notes = new Note[NOTES];

        Valley() {
            Arrays.fill(least, LEAST_BASE);
            Arrays.fill(most, MOST_BASE);
        }

        void clear() {
            Arrays.fill(least, LEAST_BASE);
            Arrays.fill(most, MOST_BASE);
            noteCount = 0;
            lineCount = 0;
            version++;
        }

        /** Notes are made anew: those of the other valley may be altered later. */
        void become(Valley other) {
            clear();
            System.arraycopy(other.least, 0, least, 0, EVENINGS);
            System.arraycopy(other.most, 0, most, 0, EVENINGS);
            for (int i = 0; i < other.noteCount; i++) {
                Note it = other.noteAt(i);
                if (it != null) addNote(it.kind(), it.evening, it.a, it.marks.clone());
            }
            System.arraycopy(other.lines, 0, lines, 0, lines.length);
            lineCount = other.lineCount;
        }

        void setEvening(int evening, int low, int high) {
            least[evening] = low;
            most[evening] = high;
            version++;
        }

        int notesOf(int evening) {
            int set = 0;
            for (int i = 0; i < noteCount; i++) {
                Note it = noteAt(i);
                if (it != null && it.evening == evening) set |= 1 << i;
            }
            return set;
        }

        /** The set of bases from least to most. */
        int basesOf(int evening) {
            return (1 << most[evening] + 1) - (1 << least[evening]);
        }

        Note noteAt(int i) {
            return i >= 0 && i < noteCount ? notes[i] : null;
        }

        /** Made here and not in a method of its own: the text's chain of calls ends in it. */
        int addNote(int kind, int evening, int a, int[] marks) {
            int i = noteCount;
            if (i >= NOTES) return FULL;
            switch (kind) {
                case 1: notes[i] = new Strokes(i, evening, a, marks); break;
                case 2: notes[i] = new Broken(i, evening, a, marks); break;
                case 3: notes[i] = new Left(i, evening, a, marks); break;
                case 4: notes[i] = new Turned(i, evening, a, marks); break;
                case 5: notes[i] = new Debt(i, evening, a, marks); break;
                default: notes[i] = new Note(i, evening, a, marks); break;
            }
            noteCount++;
            version++;
            return i;
        }

        int addLine(int sort, int x, int y, int z) {
            if (lineCount >= LINES) return FULL;
            int at = lineCount * 4;
            lines[at] = sort;
            lines[at + 1] = x;
            lines[at + 2] = sort == WHOLE ? 0 : y;
            lines[at + 3] = sort == SUM || sort == WHOLE ? z : 0;
            lineCount++;
            version++;
            return lineCount - 1;
        }

        int strikeLine(int line) {
            int behind = lineCount - 1 - line;
            if (line >= 0 && behind >= 0) {
                System.arraycopy(lines, (line + 1) * 4, lines, line * 4, behind * 4);
                lineCount--;
                version++;
            }
            return lineCount;
        }

        boolean lineHolds(int line, int[] bases) {
            int at = line * 4;
            int sort = lines[at];
            int x = worthOf(lines[at + 1], bases);
            int y = sort == WHOLE ? 0 : worthOf(lines[at + 2], bases);
            int z = sort == SUM ? worthOf(lines[at + 3], bases) : lines[at + 3];
            return sortHolds(sort, x, y, z);
        }

        private int worthOf(int note, int[] bases) {
            Note it = noteAt(note);
            return it == null ? 0 : it.worthBy(bases[it.evening]);
        }

        /** The set of lines that tell of a note. */
        int linesWith(int note) {
            int set = 0;
            for (int line = 0; line < lineCount; line++) {
                int at = line * 4;
                int sort = lines[at];
                boolean tells = lines[at + 1] == note
                        || sort != WHOLE && lines[at + 2] == note
                        || sort == SUM && lines[at + 3] == note;
                if (tells) set |= 1 << line;
            }
            return set;
        }

        int allLines() {
            return (1 << lineCount) - 1;
        }
    }

    // ---- worlds

    /**
     * Finds worlds. Lines that tell of one evening narrow its bases, lines that tell of two narrow
     * the later one by each base of the earlier one; only those that tell of all three are tried by three bases.
     */
    static final class Finder {
        /** By the set of evenings that a line tells of: the first and the second one, -1 for none. */
        private static final int[] FIRST = {-1, 0, 1, 0, 2, 0, 1, -1};
        private static final int[] SECOND = {-1, -1, -1, 1, -1, 2, 2, -1};
        private static final int ALL_THREE = 7, NO_NOTE = -1, NEVER = -1;

        final Valley valley = new Valley();
        final int[] bases = new int[EVENINGS];
        int mendNote = 0;
        int mendPlace = 0;
        int mendSign = 0;
        private final int[] evenings = new int[NOTES];
        private final int[] cans = new int[NOTES];
        private final int[] worths = new int[NOTES * BY_BASE];
        private final int[] touched = new int[LINES];
        /** Three sets of bases by evening; then, for the pairs 01, 02 and 12, sets by the base of the first. */
        private final int[] limits = new int[EVENINGS + 3 * BY_BASE];
        private final int[] saved = new int[EVENINGS + 3 * BY_BASE];
        /** The bases of evening 2 in worlds, by those of evenings 0 and 1. */
        private final int[] thirds = new int[BY_BASE * BY_BASE];
        private final int[] seen = new int[EVENINGS];
        private int count = 0;
        private int version = NEVER;
        private int mendVersion = NEVER;

        int howMany() {
            refresh();
            return count;
        }

        int basesSeen(int evening) {
            refresh();
            return seen[evening];
        }

        /** The bases become those of the k-th world, if there is one. */
        boolean goTo(int k) {
            refresh();
            if (k < 0 || k >= count) return false;
            int left = k;
            for (int at = 0; at < thirds.length; at++) {
                int n = Integer.bitCount(thirds[at]);
                if (left < n) {
                    bases[0] = at / BY_BASE;
                    bases[1] = at % BY_BASE;
                    bases[2] = baseAt(thirds[at], left);
                    return true;
                }
                left -= n;
            }
            return false;
        }

        /** To be asked for only if there is no world. */
        int fewestLines() {
            load();
            int all = valley.allLines();
            for (int size = 0; size <= LINES; size++) {
                for (int set = 0; set <= all; set++) {
                    if (Integer.bitCount(set) == size && !isWorldBy(set)) return set;
                }
            }
            return all;
        }

        int eveningsFor(int note) {
            load();
            int set = 0;
            for (int e = 0; e < EVENINGS; e++) {
                evenings[note] = e;
                markTouched();
                if (isWorldBy(valley.allLines())) set |= 1 << e;
            }
            return set;
        }

        /** To be asked for only if there is no world: whether one changed sign makes one, and which. */
        boolean canMend() {
            if (mendVersion == valley.version) return mendNote != NO_NOTE;
            mendVersion = valley.version;
            load();
            for (int i = 0; i < valley.noteCount; i++) {
                if (mendsBy(i)) return true;
            }
            mendNote = NO_NOTE;
            return false;
        }

        private boolean mendsBy(int i) {
            Note it = valley.noteAt(i);
            int without = valley.allLines() & ~valley.linesWith(i);
            limitBy(without, i);
            // What can't be without this note can't be by another sign of it.
            if (it == null || !isWorldWithin(without)) return false;
            System.arraycopy(limits, 0, saved, 0, limits.length);
            boolean mends = false;
            for (int place = 0; place < it.marks.length && !mends; place++) {
                int was = it.marks[place];
                for (int sign = 0; sign <= TOP_SIGN && !mends; sign++) {
                    it.marks[place] = sign;
                    mends = sign != was && fitsAgain(it);
                    if (mends) keepMend(i, place, sign);
                }
                it.marks[place] = was;
            }
            readNote(it);
            return mends;
        }

        private void keepMend(int note, int place, int sign) {
            mendNote = note;
            mendPlace = place;
            mendSign = sign;
        }

        /** Whether there is a world with an altered note, all else being narrowed in the saved limits. */
        private boolean fitsAgain(Note it) {
            int can = it.basesItCanBeIn();
            if ((saved[it.evening] & can) == 0) return false;
            readNote(it);
            System.arraycopy(saved, 0, limits, 0, limits.length);
            limits[it.evening] &= can;
            int with = valley.linesWith(it.number);
            for (int line = 0; line < valley.lineCount; line++) {
                if ((with >> line & 1) != 0) limitByLine(line);
            }
            return isWorldWithin(valley.allLines());
        }

        private void refresh() {
            if (version == valley.version) return;
            version = valley.version;
            load();
            limitBy(valley.allLines(), NO_NOTE);
            fill();
        }

        private void load() {
            for (int i = 0; i < valley.noteCount; i++) {
                Note it = valley.noteAt(i);
                if (it != null) readNote(it);
            }
            markTouched();
        }

        private void readNote(Note it) {
            int i = it.number;
            evenings[i] = it.evening;
            cans[i] = it.basesItCanBeIn();
            for (int b = LEAST_BASE; b <= MOST_BASE; b++) worths[i * BY_BASE + b] = it.worthBy(b);
        }

        private void markTouched() {
            int[] lines = valley.lines;
            for (int line = 0; line < valley.lineCount; line++) {
                int at = line * 4;
                int sort = lines[at];
                int set = 1 << evenings[lines[at + 1]];
                if (sort != WHOLE) set |= 1 << evenings[lines[at + 2]];
                if (sort == SUM) set |= 1 << evenings[lines[at + 3]];
                touched[line] = set;
            }
        }

        /** Every world keeps within the limits, by all notes but one and by a set of lines. */
        private void limitBy(int set, int except) {
            Arrays.fill(limits, ALL_BASES);
            for (int e = 0; e < EVENINGS; e++) limits[e] = valley.basesOf(e);
            for (int i = 0; i < valley.noteCount; i++) {
                if (i != except) limits[evenings[i]] &= cans[i];
            }
            for (int line = 0; line < valley.lineCount; line++) {
                if ((set >> line & 1) != 0) limitByLine(line);
            }
        }

        private void limitByLine(int line) {
            int first = FIRST[touched[line]];
            int second = SECOND[touched[line]];
            if (first < 0) return;
            if (second < 0) {
                limits[first] = basesThatHold(line, first, limits[first]);
                return;
            }
            int pair = EVENINGS + (first + second - 1) * BY_BASE;
            for (int b = LEAST_BASE; b <= MOST_BASE; b++) {
                if ((limits[first] >> b & 1) == 0) continue;
                bases[first] = b;
                limits[pair + b] = basesThatHold(line, second, limits[pair + b] & limits[second]);
            }
        }

        /** Those of a set of bases of an evening by which a line holds, the other bases being as they are. */
        private int basesThatHold(int line, int evening, int set) {
            int[] lines = valley.lines;
            int sort = lines[line * 4];
            int x = lines[line * 4 + 1];
            int y = lines[line * 4 + 2];
            int z = lines[line * 4 + 3];
            int hold = set;
            for (int b = LEAST_BASE; b <= MOST_BASE; b++) {
                if ((set >> b & 1) == 0) continue;
                bases[evening] = b;
                int worthX = worths[x * BY_BASE + bases[evenings[x]]];
                int worthY = sort == WHOLE ? 0 : worths[y * BY_BASE + bases[evenings[y]]];
                int worthZ = sort == SUM ? worths[z * BY_BASE + bases[evenings[z]]] : z;
                if (!sortHolds(sort, worthX, worthY, worthZ)) hold &= ~(1 << b);
            }
            return hold;
        }

        private boolean isWorldBy(int set) {
            limitBy(set, NO_NOTE);
            return isWorldWithin(set);
        }

        private boolean isWorldWithin(int set) {
            if (limits[0] == 0 || limits[1] == 0 || limits[2] == 0) return false;
            for (int b = LEAST_BASE; b <= MOST_BASE; b++) {
                if ((limits[0] >> b & 1) == 0) continue;
                for (int c = LEAST_BASE; c <= MOST_BASE; c++) {
                    if (thirdBases(b, c, set) != 0) return true;
                }
            }
            return false;
        }

        /** The bases of evening 2 beside one of evening 0 and one of evening 1. */
        private int thirdBases(int b, int c, int set) {
            boolean beside = (limits[0] >> b & 1) != 0 && (limits[1] & limits[EVENINGS + b] & 1 << c) != 0;
            if (!beside) return 0;
            int left = limits[2] & limits[EVENINGS + BY_BASE + b] & limits[EVENINGS + 2 * BY_BASE + c];
            bases[0] = b;
            bases[1] = c;
            for (int line = 0; line < valley.lineCount && left != 0; line++) {
                if ((set >> line & 1) != 0 && touched[line] == ALL_THREE) left = basesThatHold(line, 2, left);
            }
            return left;
        }

        private void fill() {
            int all = valley.allLines();
            Arrays.fill(seen, 0);
            count = 0;
            for (int b = LEAST_BASE; b <= MOST_BASE; b++) {
                for (int c = LEAST_BASE; c <= MOST_BASE; c++) {
                    int left = thirdBases(b, c, all);
                    thirds[b * BY_BASE + c] = left;
                    if (left == 0) continue;
                    count += Integer.bitCount(left);
                    seen[0] |= 1 << b;
                    seen[1] |= 1 << c;
                    seen[2] |= left;
                }
            }
        }
    }

    // ---- a valley told in a text

    /** Reads a text into a draft. Where it fails, start is the place of the fault. */
    static final class Teller {
        private static final int END = 0, NAME = 1, NUMBER = 2, OTHER = 3;
        private static final int BLANK = 32, NOT_A_NUMBER = -1;

        final Valley draft = new Valley();
        int start = 0;
        private final int[] marks = new int[SIGNS];
        private int[] text = new int[0];
        private int length = 0;
        private int place = 0;
        private int sort = END;
        private int value = 0;

        boolean told(int[] bytes, int n) {
            text = bytes;
            length = Math.min(n, bytes.length);
            place = 0;
            draft.clear();
            next();
            boolean right = true;
            // Each statement takes a byte at least.
            for (int turn = 0; turn <= length && right && sort != END; turn++) {
                int kind = kindNamed();
                int lineSort = lineSortNamed();
                if (kind >= 0) right = noteTold(kind);
                else if (lineSort >= 0) right = lineTold(lineSort);
                else right = isName("evening") && eveningTold();
            }
            return right && sort == END;
        }

        private int kindNamed() {
            if (isName("note")) return 0;
            if (isName("strokes")) return 1;
            if (isName("broken")) return 2;
            if (isName("left")) return 3;
            if (isName("turned")) return 4;
            return isName("debt") ? 5 : -1;
        }

        private int lineSortNamed() {
            if (isName("same")) return SAME;
            if (isName("more")) return MORE;
            if (isName("sum")) return SUM;
            return isName("whole") ? WHOLE : -1;
        }

        private boolean noteTold(int kind) {
            if (draft.noteCount >= NOTES) return false;
            next();
            int evening = number(0, EVENINGS - 1);
            if (evening < 0) return false;
            int a = 0;
            if (isName("at")) {
                next();
                a = number(0, 6);
            }
            if (a < 0 || !takes(':')) return false;
            int n = marksTold();
            if (n < 1 || !takes(';')) return false;
            int[] own = new int[n];
            System.arraycopy(marks, 0, own, 0, n);
            draft.addNote(kind, evening, a, own);
            return true;
        }

        /** How many signs were told, 0 if one of them is wrong. */
        private int marksTold() {
            for (int n = 0; n < SIGNS; n++) {
                marks[n] = number(0, TOP_SIGN);
                if (marks[n] < 0) return 0;
                if (!takes(',')) return n + 1;
            }
            return 0;
        }

        private boolean eveningTold() {
            next();
            int evening = number(0, EVENINGS - 1);
            if (evening < 0) return false;
            int least = number(LEAST_BASE, MOST_BASE);
            if (least < 0) return false;
            int most = number(least, MOST_BASE);
            if (most < 0 || !takes(';')) return false;
            draft.setEvening(evening, least, most);
            return true;
        }

        private boolean lineTold(int lineSort) {
            if (draft.lineCount >= LINES) return false;
            next();
            int last = draft.noteCount - 1;
            int x = number(0, last);
            if (x < 0) return false;
            int y = lineSort == WHOLE ? 0 : number(0, last);
            if (y < 0) return false;
            int z = 0;
            if (lineSort == SUM) z = number(0, last);
            if (lineSort == WHOLE) z = number(1, 99);
            if (z < 0 || !takes(';')) return false;
            draft.addLine(lineSort, x, y, z);
            return true;
        }

        private int number(int low, int high) {
            if (sort != NUMBER || value < low || value > high) return NOT_A_NUMBER;
            int got = value;
            next();
            return got;
        }

        private boolean takes(int sign) {
            if (sort != OTHER || value != sign) return false;
            next();
            return true;
        }

        private boolean isName(String name) {
            if (sort != NAME || place - start != name.length()) return false;
            for (int i = 0; i < name.length(); i++) {
                if (text[start + i] != name.charAt(i)) return false;
            }
            return true;
        }

        private void next() {
            while (place < length && text[place] == BLANK) place++;
            start = place;
            value = NOT_A_NUMBER;
            if (place >= length) {
                sort = END;
            } else if (isLetter(text[place])) {
                sort = NAME;
                while (place < length && isLetter(text[place])) place++;
            } else if (isDigit(text[place])) {
                sort = NUMBER;
                while (place < length && isDigit(text[place])) place++;
                if (place - start <= 2) value = digitsWorth();
            } else {
                sort = OTHER;
                value = text[place];
                place++;
            }
        }

        private int digitsWorth() {
            int worth = 0;
            for (int i = start; i < place; i++) worth = worth * 10 + text[i] - '0';
            return worth;
        }

        private static boolean isLetter(int sign) {
            return sign >= 'a' && sign <= 'z';
        }

        private static boolean isDigit(int sign) {
            return sign >= '0' && sign <= '9';
        }
    }
}
