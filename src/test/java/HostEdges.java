/** The edges of promises 35 to 42: just at them and just beyond, and that a refused call changes nothing. */
final class HostEdges {
    private static final int TERMS = Sentences.TERMS;
    private static final int BAD = Scene.BAD, NONE = Scene.NONE, LOW = Scene.LOW, HIGH = Scene.HIGH;
    private static final int NOTHING = -11, OUTSIDE = -12, OTHER = -13, BELOW = -14, PARTED = -15;
    private static final Scene NEW = Scene.fresh();
    private static final Scene LIVED = Scene.lived().withBytes();
    /** By kind of a thing: the set of kinds that it may be taken for. */
    private static final int[] KINDS = {1, 3, 5, 13, 17, 35};

    static void all() {
        sheet();
        sheetMissing();
        put();
        putNarrowed();
        item();
        itemsAsLowAsRefusals();
        shelf();
        shelfOfNothing();
        taken();
        takenAsRows();
        lostNotes();
        act();
        actOfNothing();
        quotients();
        parted();
        wraps();
        trace();
        tracesOfKinds();
        many();
    }

    private static void sheet() {
        Sentences.says(35, "A SHEET becomes a row of n of a sort, all 0");
        Sentences.says(35, ": 1. BAD: no such SHEET, sort, n above 40; -14.");
        for (int sheet = 0; sheet <= 3; sheet++) {
            for (int sort = 0; sort <= 3; sort++) {
                for (int n : new int[] {0, 1, 39, 40}) {
                    Scene made = LIVED.then(1, "sheet", sheet, sort, n);
                    if (n > 0) made.then(0, "item", sheet, sort, n - 1);
                    made.shows(OUTSIDE, "item", sheet, sort, n);
                    made.with("shelf", 3, 1, sheet).then(n, "taken", 3, 10 + sort);
                }
            }
        }
        for (int i = 0; i < 4; i++) LIVED.then(1, "sheet", 0, 0, 4).then(0, "item", 0, 0, i);
        long[] right = {0, 0, 4};
        LIVED.bounds(BAD, "sheet", right, 0, -1, 4, LOW, HIGH);
        LIVED.bounds(BAD, "sheet", right, 1, -2, 4, LOW, HIGH);
        LIVED.bounds(BAD, "sheet", right, 2, 41, 42, HIGH);
        for (int sort = 0; sort <= 3; sort++) LIVED.bounds(BELOW, "sheet", new long[] {0, sort, 4}, 2, -1, -40, LOW);
        LIVED.refuses(BAD, "sheet", new long[] {4, 0, -1}, new long[] {-1, 0, -1}, new long[] {0, 4, -1}, new long[] {0, -2, -1}, new long[] {4, -1, 0});
    }

    private static void sheetMissing() {
        Sentences.says(35, ", or missing (sort -1; n counts nothing then)");
        Sentences.says(TERMS, "SHEETS 0 to 3 are rows of bytes (sort 0), shorts (1), ints (2) or longs (3), 40 at most, or missing (at first).");
        for (int sheet = 0; sheet <= 3; sheet++) {
            NEW.shows(NOTHING, "put", sheet, 0, 1);
            for (int n : new int[] {LOW, -1, 0, 40, 41, HIGH}) LIVED.then(1, "sheet", sheet, -1, n).then(NOTHING, "item", sheet, 0, 0);
            NEW.with("sheet", sheet, 1, 5).then(1, "sheet", sheet, -1, 41).same(NEW);
        }
    }

    private static void put() {
        Sentences.says(36, ": 1. BAD: no such SHEET; -11; -12.");
        for (int sort = 0; sort <= 3; sort++) {
            Scene row = LIVED.with("sheet", 2, sort, 5);
            row.then(1, "put", 2, 0, 7).then(7, "item", 2, sort, 0).then(0, "item", 2, sort, 1);
            row.then(1, "put", 2, 4, 7).then(7, "item", 2, sort, 4).then(0, "item", 2, sort, 3);
            row.bounds(OUTSIDE, "put", new long[] {2, 0, 7}, 1, -1, 5, 40, LOW, HIGH);
            row.bounds(BAD, "put", new long[] {2, 0, 7}, 0, -1, 4, LOW, HIGH);
            Scene empty = LIVED.with("sheet", 2, sort, 0);
            empty.bounds(OUTSIDE, "put", new long[] {2, 0, 7}, 1, -1, 0, 1);
        }
        LIVED.bounds(NOTHING, "put", new long[] {3, 0, 7}, 1, -1, 0, 40, LOW, HIGH);
        LIVED.refuses(BAD, "put", new long[] {4, -1, 0}, new long[] {-1, 99, 0});
    }

    private static void putNarrowed() {
        Sentences.says(36, "Item i becomes v, narrowed to its sort");
        int[] values = {0, 1, -1, 127, 128, 129, 255, 256, -128, -129, -130, 32767, 32768, 65535, 65536, -32768, -32769, 70000, HIGH, LOW};
        for (int v : values) {
            int[] due = {(byte) v, (short) v, v, v};
            for (int sort = 0; sort <= 3; sort++) {
                NEW.with("sheet", 1, sort, 3).then(1, "put", 1, 1, v).then(due[sort], "item", 1, sort, 1).then(0, "item", 1, sort, 0).then(0, "item", 1, sort, 2);
            }
        }
    }

    private static void item() {
        Sentences.says(37, "Item i, taken for a sort (0 to 3; of longs the lowest 32 bits). BAD: no such SHEET, sort; -11; -13; -12.");
        for (int sort = 0; sort <= 3; sort++) {
            Scene row = LIVED.with("sheet", 2, sort, 5).with("put", 2, 0, 3).with("put", 2, 4, -4);
            row.shows(3, "item", 2, sort, 0);
            row.shows(-4, "item", 2, sort, 4);
            row.bounds(OUTSIDE, "item", new long[] {2, sort, 0}, 2, -1, 5, 40, LOW, HIGH);
            row.bounds(BAD, "item", new long[] {2, sort, 0}, 0, -1, 4, LOW, HIGH);
            row.bounds(BAD, "item", new long[] {2, sort, 0}, 1, -1, 4, LOW, HIGH);
            for (int as = 0; as <= 3; as++) {
                if (as != sort) row.refuses(OTHER, "item", new long[] {2, as, 0}, new long[] {2, as, 5}, new long[] {2, as, -1}, new long[] {2, as, LOW});
                LIVED.refuses(NOTHING, "item", new long[] {3, as, 0}, new long[] {3, as, -1}, new long[] {3, as, HIGH});
            }
        }
        LIVED.refuses(BAD, "item", new long[] {3, 4, 0}, new long[] {3, -1, -1}, new long[] {4, 0, 99}, new long[] {0, 4, 99});
        NEW.with("sheet", 0, 3, 1).with("put", 0, 0, LOW).then(LOW, "item", 0, 3, 0);
        NEW.with("sheet", 0, 3, 1).with("put", 0, 0, HIGH).then(HIGH, "item", 0, 3, 0);
    }

    private static void itemsAsLowAsRefusals() {
        Sentences.says(37, "(An item may be as low as these, too.)");
        for (int low : new int[] {-1, -11, -12, -13}) {
            for (int sort = 0; sort <= 3; sort++) NEW.with("sheet", 0, sort, 1).with("put", 0, 0, low).shows(low, "item", 0, sort, 0);
        }
    }

    private static void shelf() {
        Sentences.says(38, "A SHELF holds NOTE n (what 0), the row of SHEET n (1; nothing, if missing), nothing (2): 1. BAD: no such SHELF, what, thing.");
        for (int shelf = 0; shelf <= 3; shelf++) {
            for (int n = 0; n <= 2; n++) LIVED.then(1, "shelf", shelf, 0, n).then(n, "taken", shelf, 0);
            LIVED.then(1, "shelf", shelf, 1, 0).then(4, "taken", shelf, 10);
            LIVED.then(1, "shelf", shelf, 1, 1).then(2, "taken", shelf, 12);
            LIVED.bounds(BAD, "shelf", new long[] {shelf, 0, 0}, 2, -1, 3, 6, LOW, HIGH);
            LIVED.bounds(BAD, "shelf", new long[] {shelf, 1, 0}, 2, -1, 4, LOW, HIGH);
            LIVED.bounds(BAD, "shelf", new long[] {shelf, 0, 0}, 1, -1, 3, LOW, HIGH);
        }
        for (int what = 0; what <= 2; what++) LIVED.bounds(BAD, "shelf", new long[] {0, what, 0}, 0, -1, 4, LOW, HIGH);
        NEW.shows(BAD, "shelf", 0, 0, 0);
    }

    private static void shelfOfNothing() {
        Sentences.says(38, "(1; nothing, if missing), nothing (2)");
        Sentences.says(TERMS, "a SHEET's row, or nothing (at first).");
        for (int shelf = 0; shelf <= 3; shelf++) {
            for (int as : new int[] {0, 5, 10, 13}) NEW.shows(NOTHING, "taken", shelf, as);
            NEW.shows(1, "shelf", shelf, 2, 0);
            NEW.shows(1, "shelf", shelf, 1, 3);
            for (int n : new int[] {LOW, -1, 0, 4, HIGH}) {
                LIVED.then(1, "shelf", shelf, 2, n).then(NOTHING, "taken", shelf, 0).then(NOTHING, "taken", shelf, 10);
            }
            for (int missing = 2; missing <= 3; missing++) {
                LIVED.then(1, "shelf", shelf, 1, missing).then(NOTHING, "taken", shelf, 0).then(NOTHING, "taken", shelf, 10);
            }
        }
        Scene none = LIVED.with("shelf", 2, 1, 3).with("sheet", 3, 0, 5);
        none.then(NOTHING, "taken", 2, 10);
    }

    private static void taken() {
        Sentences.says(39, "What a SHELF holds taken for a thing of KIND as (0 to 5, or one under it): its number;");
        Sentences.says(39, "BAD: no such SHELF, as; -11; -13.");
        Sentences.says(TERMS, "a KIND: 0 note; 1 strokes, 2 broken, 4 turned (under note), 3 left (under broken), 5 debt (under strokes)");
        Scene kinds = Scene.told("note 0:1;strokes 0:1;broken 0:1;left 0:1;turned 0:1;debt 0:1;").withBytes();
        for (int n = 0; n < 6; n++) {
            Scene held = kinds.with("shelf", 3, 0, n);
            for (int as = 0; as <= 5; as++) held.shows((KINDS[n] >> as & 1) != 0 ? n : OTHER, "taken", 3, as);
            for (int as = 10; as <= 13; as++) held.shows(OTHER, "taken", 3, as);
            held.bounds(BAD, "taken", new long[] {3, 0}, 1, -1, 6, 7, 8, 9, 14, LOW, HIGH);
            held.bounds(BAD, "taken", new long[] {3, 0}, 0, -1, 4, LOW, HIGH);
        }
        LIVED.bounds(BAD, "taken", new long[] {3, 0}, 1, -1, 6, 9, 14);
        LIVED.refuses(BAD, "taken", new long[] {4, 6}, new long[] {-1, 0});
    }

    private static void takenAsRows() {
        Sentences.says(39, "for a row of sort as - 10 (as 10 to 13): how many items.");
        for (int sort = 0; sort <= 3; sort++) {
            for (int n : new int[] {0, 1, 40}) {
                Scene held = LIVED.with("sheet", 2, sort, n).with("shelf", 2, 1, 2);
                for (int as = 10; as <= 13; as++) held.shows(as == 10 + sort ? n : OTHER, "taken", 2, as);
                for (int as = 0; as <= 5; as++) held.shows(OTHER, "taken", 2, as);
                held.bounds(BAD, "taken", new long[] {2, 0}, 1, -1, 6, 9, 14, LOW, HIGH);
            }
        }
    }

    private static void lostNotes() {
        Sentences.says(TERMS, "SHELVES 0 to 3 hold a NOTE (by its number; nothing, if there is no such one any more)");
        Scene held = Scene.told("note 0:1;strokes 0:1;").with("shelf", 0, 0, 0).with("shelf", 1, 0, 1);
        Scene one = held.fed("debt 0:1;").with("valley");
        one.shows(0, "taken", 0, 5);
        one.shows(NOTHING, "taken", 1, 0);
        one.shows(NOTHING, "taken", 1, 10);
        one.then(0, "act", 1, 0, 5).then(0, "many", 4);
        Scene none = held.with("valley");
        none.shows(NOTHING, "taken", 0, 0);
        none.shows(NOTHING, "taken", 1, 0);
        NEW.with("keep").with("note", 0, 0, 0, 1, 1).with("shelf", 0, 0, 0).with("again").shows(NOTHING, "taken", 0, 0);
        // A row that lay on the shelf ahead of the note does not come back.
        Scene row = NEW.with("note", 0, 0, 0, 1, 1).with("sheet", 0, 0, 5).with("shelf", 0, 1, 0).with("shelf", 0, 0, 0).with("valley");
        row.shows(NOTHING, "taken", 0, 10);
        row.shows(NOTHING, "taken", 0, 0);
    }

    private static void act() {
        Sentences.says(40, "An ACT (0 to 3) of the thing on a SHELF, with x.");
        for (int shelf = 0; shelf <= 3; shelf++) {
            Scene held = NEW.with("note", 0, 0, 6, 1, 1).with("note", 0, 0, 6, 1, 1).with("shelf", shelf, 0, 1);
            held.then(11, "act", shelf, 0, 10).then(1, "many", 4);
            held.then(22, "act", shelf, 1, 10).then(2, "many", 4);
            held.then(2, "act", shelf, 2, 10).then(1, "many", 4);
            held.then(22 ^ 6, "act", shelf, 3, 10).then(3, "many", 4);
        }
        Sentences.says(TERMS, "A NOTE is held as a thing of its KIND; n: its number, a: its A.");
        Sentences.says(TERMS, "note: 10 reads: x + n. 11 writes: reads(x) * 2.");
        Sentences.says(TERMS, "13 tells: writes(x) ^ a.");
        Sentences.says(TERMS, "strokes: 20 writes: super.writes(x) - a. broken: 30 reads: super.reads(x) * 3. 31 tells: super.tells(x) + shares(n)."
                + " left: 40 reads: 0 - super.reads(x). 41 writes: super.writes(x) + reads(n).");
        Sentences.says(TERMS, "turned: 60 tells: super.tells(x) * 2. 61 shares: super.shares(x) + reads(a)."
                + " debt: 50 shares: super.shares(x + 2) ^ 1. 51 reads: super.reads(x) - n.");
        int[][] due = {{10, 20, 10 / 6, 20 ^ 6}, {11, 16, 2, 16 ^ 6}, {36, 72, 2, 72 ^ 6}, {-39, -96, 3, (-96 ^ 6) + 1},
            {14, 28, 5 + 10, (28 ^ 6) * 2}, {10, 14, 12 ^ 1, 14 ^ 6}};
        Scene kinds = NEW;
        for (int kind = 0; kind < 6; kind++) kinds = kinds.with("note", kind, 0, 6, 1, 1);
        for (int kind = 0; kind < 6; kind++) {
            for (int act = 0; act <= 3; act++) kinds.with("shelf", 0, 0, kind).then(due[kind][act], "act", 0, act, 10);
        }
    }

    private static void actOfNothing() {
        Sentences.says(40, "0, and no TRACE then: no such SHELF, act, nothing, a row.");
        Scene bare = Scene.told("note 0 at 6:1;").with("sheet", 0, 0, 5).with("shelf", 0, 0, 0).with("shelf", 1, 1, 0).with("keep").withBytes();
        Scene traced = bare.then(20 ^ 6, "act", 0, 3, 10).then(3, "many", 4);
        long[][] none = {{-1, 0}, {4, 0}, {LOW, 0}, {HIGH, 0}, {0, -1}, {0, 4}, {0, LOW}, {0, HIGH}, {1, 0}, {1, 1}, {1, 2}, {1, 3}, {2, 0}, {3, 3}, {1, 4}, {4, 4}};
        for (long[] n : none) {
            traced.then(0, "act", n[0], n[1], 10).same(bare.with("act", 2, 0, 0));
            traced.then(0, "act", n[0], n[1], 10).then(NONE, "trace", 0);
            bare.shows(0, "act", n[0], n[1], 10);
        }
    }

    private static void quotients() {
        Sentences.says(TERMS, "Quotients are cut towards 0.");
        Sentences.says(TERMS, "12 shares: x by (a - n), the rest away");
        Scene notes = NEW.with("note", 0, 0, 3, 1, 1).with("note", 0, 0, 0, 1, 1).with("note", 0, 0, 0, 1, 1).with("shelf", 0, 0, 0).with("shelf", 1, 0, 1)
                .with("shelf", 2, 0, 2);
        for (int x : new int[] {-7, -6, -5, -4, -3, -2, -1, 0, 1, 2, 3, 4, 5, 6, 7, HIGH, LOW}) {
            notes.then(x / 3, "act", 0, 2, x);
            notes.then(-x, "act", 1, 2, x);
            notes.then(x / -2, "act", 2, 2, x);
        }
        notes.then(-2, "act", 0, 2, -8);
        notes.then(2, "act", 0, 2, 8);
        notes.then(-3, "act", 2, 2, 7);
        notes.then(LOW, "act", 1, 2, LOW);
    }

    private static void parted() {
        Sentences.says(TERMS, "(-15 if these are the same; that is all that act() answers then)");
        for (int kind = 0; kind <= 5; kind++) {
            for (int n = 0; n <= 2; n++) {
                for (int a = n - 1; a <= n + 1; a++) {
                    if (a < 0) continue;
                    Scene scene = NEW;
                    for (int i = 0; i < n; i++) scene = scene.with("note", 0, 0, 0, 1, 1);
                    scene = scene.with("note", kind, 0, a, 1, 1).with("shelf", 0, 0, n);
                    partedOrNot(scene, kind, n, a);
                }
            }
        }
    }

    private static void partedOrNot(Scene scene, int kind, int n, int a) {
        int by = a - n;
        int reads = kind == 2 ? 3 * (a + n) : kind == 3 ? -3 * (a + n) : kind == 5 ? a : a + n;
        int due = by == 0 ? PARTED : kind == 4 ? 40 / by + reads : kind == 5 ? 42 / by ^ 1 : 40 / by;
        Scene shared = scene.then(due, "act", 0, 2, 40);
        int bodies = kind == 4 ? by == 0 ? 2 : 3 : kind == 5 ? 2 : 1;
        shared.then(bodies, "many", 4).then(12, "trace", kind == 4 || kind == 5 ? 1 : 0).then(NONE, "trace", bodies);
        Scene told = scene.with("act", 0, 3, 1);
        boolean tellsByShares = kind == 2 || kind == 3;
        Checks.due("whether it is parted", told.answer() == PARTED ? 1 : 0, tellsByShares && by == 0 ? 1 : 0);
        if (by == 0) shared.with("act", 0, 0, 0).then(kind == 3 ? 3 : kind == 2 || kind == 5 ? 2 : 1, "many", 4);
    }

    private static void wraps() {
        Sentences.says(TERMS, "ACTS of things, with a number x (ints that wrap): 0 reads, 1 writes, 2 shares, 3 tells.");
        Scene notes = NEW.with("note", 0, 0, 6, 1, 1).with("note", 2, 0, 6, 1, 1).with("note", 3, 0, 6, 1, 1).with("note", 4, 0, 6, 1, 1).with("note", 5, 0, 6, 1, 1)
                .with("note", 1, 0, 6, 1, 1);
        for (int x : new int[] {HIGH, HIGH - 1, LOW, LOW + 1, 1 << 30, -(1 << 30) - 5, 715827882, 715827883}) {
            notes.with("shelf", 0, 0, 0).then(x * 2, "act", 0, 1, x);
            notes.with("shelf", 0, 0, 0).then(x * 2 ^ 6, "act", 0, 3, x);
            notes.with("shelf", 0, 0, 1).then((x + 1) * 3, "act", 0, 0, x);
            notes.with("shelf", 0, 0, 1).then((x + 1) * 6, "act", 0, 1, x);
            notes.with("shelf", 0, 0, 2).then(-((x + 2) * 3), "act", 0, 0, x);
            notes.with("shelf", 0, 0, 2).then(-((x + 2) * 3) * 2 - 12, "act", 0, 1, x);
            notes.with("shelf", 0, 0, 3).then(((x + 3) * 2 ^ 6) * 2, "act", 0, 3, x);
            notes.with("shelf", 0, 0, 3).then(x / 3 + 9, "act", 0, 2, x);
            notes.with("shelf", 0, 0, 4).then((x + 2) / 2 ^ 1, "act", 0, 2, x);
            notes.with("shelf", 0, 0, 4).then(x, "act", 0, 0, x);
            notes.with("shelf", 0, 0, 5).then((x + 5) * 2 - 6, "act", 0, 1, x);
        }
    }

    private static void trace() {
        Sentences.says(41, "THE TRACE's i-th body. NONE.");
        Sentences.says(TERMS, "THE TRACE: numbers of the bodies that ran in the latest act(), as they began (left first); the first 30 are kept.");
        Scene left = LIVED.with("note", 3, 0, 0, 1, 1).with("shelf", 2, 0, 3).with("act", 2, 3, 7);
        int[] bodies = {31, 13, 41, 11, 40, 30, 10, 40, 30, 10, 12};
        for (int i = 0; i < bodies.length; i++) left.shows(bodies[i], "trace", i);
        left.bounds(NONE, "trace", new long[] {0}, 0, -1, 11, 12, 29, 30, 31, LOW, HIGH);
        left.shows(11, "many", 4);
        Scene reads = left.with("act", 2, 0, 7);
        reads.shows(40, "trace", 0);
        reads.shows(10, "trace", 2);
        reads.bounds(NONE, "trace", new long[] {0}, 0, -1, 3, 10, 31);
        NEW.bounds(NONE, "trace", new long[] {0}, 0, -1, 0, 1, LOW, HIGH);
    }

    private static void tracesOfKinds() {
        Sentences.says(TERMS, "BODIES, each with its number:");
        // By kind, then by act.
        int[][][] bodies = {
            {{10}, {11, 10}, {12}, {13, 11, 10}},
            {{10}, {20, 11, 10}, {12}, {13, 20, 11, 10}},
            {{30, 10}, {11, 30, 10}, {12}, {31, 13, 11, 30, 10, 12}},
            {{40, 30, 10}, {41, 11, 40, 30, 10, 40, 30, 10}, {12}, {31, 13, 41, 11, 40, 30, 10, 40, 30, 10, 12}},
            {{10}, {11, 10}, {61, 12, 10}, {60, 13, 11, 10}},
            {{51, 10}, {20, 11, 51, 10}, {50, 12}, {13, 20, 11, 51, 10}}};
        for (int kind = 0; kind <= 5; kind++) {
            for (int act = 0; act <= 3; act++) {
                Scene acted = NEW.with("note", kind, 0, 1, 1, 1).with("shelf", 0, 0, 0).with("act", 0, act, 5);
                int[] due = bodies[kind][act];
                for (int i = 0; i < due.length; i++) acted.shows(due[i], "trace", i);
                acted.shows(NONE, "trace", due.length);
                acted.shows(due.length, "many", 4);
                Scene parted = NEW.with("note", kind, 0, 0, 1, 1).with("shelf", 0, 0, 0).with("act", 0, act, 5);
                // Where it is parted by 0, the body 12 is the last one.
                int last = due.length;
                for (int i = due.length - 1; i >= 0; i--) last = due[i] == 12 ? i + 1 : last;
                for (int i = 0; i < last; i++) parted.shows(due[i], "trace", i);
                parted.shows(NONE, "trace", last);
                parted.shows(last, "many", 4);
            }
        }
    }

    private static void many() {
        Sentences.says(42, "How many: what = 0 NOTES, 1 LINES, 2 ROWS, 3 bytes of THE TAPE, 4 bodies of THE TRACE. BAD: another what.");
        int[] due = {3, 2, 3, 9, 4};
        for (int what = 0; what <= 4; what++) {
            LIVED.shows(due[what], "many", what);
            NEW.shows(0, "many", what);
        }
        LIVED.bounds(BAD, "many", new long[] {0}, 0, -1, 5, LOW, HIGH);
        NEW.bounds(BAD, "many", new long[] {0}, 0, -1, 5);
    }
}
