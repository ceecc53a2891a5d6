/** The edges of promises 1, 2 and 4 to 11: just at them and just beyond, and that a refused call changes nothing. */
final class ValleyEdges {
    private static final int TERMS = Sentences.TERMS;
    private static final int BAD = Scene.BAD, FULL = Scene.FULL, NONE = Scene.NONE, LOW = Scene.LOW, HIGH = Scene.HIGH;
    private static final long NO = Scene.NO;
    private static final long BLANKS = 0x2020202020202020L;
    private static final int ALL = 131068;
    private static final Scene NEW = Scene.fresh();
    private static final Scene LIVED = Scene.lived().withBytes();
    private static final Scene SIX = Scene.told("note 0:1;note 0:2;note 1:3;debt 1:1;left 2:1;turned 2:1,2,3,4,5,6;").withBytes();

    static void all() {
        newObject();
        feedSizes();
        feedFull();
        evening();
        eveningOf();
        note();
        noteSigns();
        noteOf();
        alter();
        move();
        worth();
        worthBehindA();
        can();
    }

    private static void newObject() {
        Sentences.says(1, "No NOTES, no LINES; nothing is kept.");
        for (int what = 0; what <= 4; what++) NEW.shows(0, "many", what);
        NEW.shows(BAD, "noteOf", 0, 0);
        NEW.shows(BAD, "lineOf", 0, 0);
        NEW.shows(BAD, "strike", 0);
        NEW.shows(BAD, "which", 0);
        NEW.shows(BAD, "shelf", 0, 0, 0);
        NEW.shows(NO, "row", 0, 0);
        NEW.shows(NONE, "trace", 0);
        NEW.shows(NONE, "again");
        NEW.with("valley").shows(NONE, "again");
        NEW.with("note", 0, 0, 0, 1, 1).shows(NONE, "again");
        Sentences.says(TERMS, "(2 to 16 each; 2 and 16 at first)");
        for (int e = 0; e < 3; e++) {
            NEW.shows(2, "eveningOf", e, 0);
            NEW.shows(16, "eveningOf", e, 1);
            NEW.shows(0, "eveningOf", e, 2);
        }
        NEW.shows(15 * 15 * 15, "worlds");
        Sentences.says(TERMS, "z (an int; 1 at first)");
        NEW.then(1, "seed", 0);
    }

    private static void feedSizes() {
        Sentences.says(2, "n bytes (1 to 8) come to THE TAPE, the lowest of eight first: how many it has.");
        for (int n = 1; n <= 8; n++) {
            NEW.then(n, "feed", BLANKS, n).then(n, "many", 3);
            LIVED.then(9 + n, "feed", BLANKS, n);
        }
        LIVED.bounds(BAD, "feed", new long[] {BLANKS, 1}, 1, 0, 9, -1, 10, 256 + 1, LOW, HIGH);
        NEW.bounds(BAD, "feed", new long[] {BLANKS, 1}, 1, 0, 9, -1, LOW, HIGH);
        long fault = 0x7878787878787878L;
        for (int n = 1; n < 8; n++) {
            long blanksBelow = fault << (8 * n) | BLANKS >>> (64 - 8 * n);
            NEW.then(n, "feed", blanksBelow, n).then(0, "valley");
            NEW.then(n + 1, "feed", blanksBelow, n + 1).then(-100 - n, "valley");
        }
        NEW.then(8, "feed", 0x3b313a3065746f6eL, 8).then(1, "valley");
        NEW.then(8, "feed", 0x8020202020202020L, 8).then(-107, "valley");
        NEW.then(8, "feed", -1L, 8).then(-100, "valley");
    }

    private static Scene blanks(int bytes) {
        Scene scene = NEW.with("note", 0, 0, 0, 1, 1);
        for (int left = bytes; left > 0; left -= 8) scene = scene.with("feed", BLANKS, Math.min(8, left));
        return scene;
    }

    private static void feedFull() {
        Sentences.says(2, "BAD; FULL: more than 200.");
        Sentences.says(TERMS, "THE TAPE takes bytes, 200 at most; valley() uses it up.");
        for (int n = 1; n <= 8; n++) {
            blanks(200 - n).then(200, "feed", BLANKS, n).then(0, "valley");
            blanks(201 - n).shows(FULL, "feed", BLANKS, n);
            blanks(200).shows(FULL, "feed", BLANKS, n);
        }
        blanks(200).shows(200, "many", 3);
        blanks(200).refuses(BAD, "feed", new long[] {BLANKS, 0}, new long[] {BLANKS, 9}, new long[] {BLANKS, HIGH}, new long[] {BLANKS, LOW});
        blanks(199).shows(FULL, "feed", 0x3b3b, 2);
        Scene used = blanks(200).then(0, "valley").then(0, "many", 3);
        for (int i = 1; i <= 25; i++) used = used.then(8 * i, "feed", BLANKS, 8);
        used.shows(FULL, "feed", BLANKS, 1);
        Scene spoiled = blanks(199).then(200, "feed", ';', 1).then(-299, "valley");
        spoiled.then(0, "many", 3);
        spoiled.then(8, "feed", BLANKS, 8);
    }

    private static void evening() {
        Sentences.says(4, "LEAST and MOST of an EVENING: 1. BAD.");
        for (int e = 0; e < 3; e++) {
            int[][] fine = {{2, 2}, {2, 16}, {16, 16}, {9, 9}, {8, 9}};
            for (int[] f : fine) {
                Scene set = LIVED.then(1, "evening", e, f[0], f[1]);
                set.then(f[0], "eveningOf", e, 0);
                set.then(f[1], "eveningOf", e, 1);
                NEW.then(1, "evening", e, f[0], f[1]).then((f[1] - f[0] + 1) * 15 * 15, "worlds");
            }
        }
        long[] right = {1, 5, 7};
        LIVED.bounds(BAD, "evening", right, 0, -1, 3, LOW, HIGH);
        LIVED.bounds(BAD, "evening", right, 1, 1, 0, -2, 8, LOW, HIGH);
        LIVED.bounds(BAD, "evening", right, 2, 4, 17, 1, -5, LOW, HIGH);
        LIVED.refuses(BAD, "evening", new long[] {0, 1, 1}, new long[] {0, 17, 17}, new long[] {0, 16, 2}, new long[] {2, 3, 2},
                new long[] {2, 16, 15}, new long[] {2, 2, 17}, new long[] {2, 1, 16}, new long[] {1, 16, 17});
    }

    private static void eveningOf() {
        Sentences.says(TERMS, "Sets are told by bits.");
        Sentences.says(5, "Of an EVENING: what = 0 LEAST, 1 MOST, 2 its NOTES (a set). BAD.");
        int[][] due = {{2, 16, 1}, {3, 9, 2}, {2, 16, 4}};
        for (int e = 0; e < 3; e++) {
            for (int what = 0; what < 3; what++) LIVED.shows(due[e][what], "eveningOf", e, what);
        }
        SIX.shows(3, "eveningOf", 0, 2);
        SIX.shows(12, "eveningOf", 1, 2);
        SIX.shows(48, "eveningOf", 2, 2);
        SIX.with("move", 0, 2).with("move", 1, 2).with("move", 2, 2).with("move", 3, 2).shows(63, "eveningOf", 2, 2);
        LIVED.bounds(BAD, "eveningOf", new long[] {0, 0}, 0, -1, 3, LOW, HIGH);
        LIVED.bounds(BAD, "eveningOf", new long[] {0, 0}, 1, -1, 3, LOW, HIGH);
    }

    private static void note() {
        Sentences.says(6, "A NOTE of n SIGNS (1 to 6), told as digits to the base 16, the last one lowest");
        Sentences.says(6, ": its number. BAD: also signs below 0; FULL.");
        Sentences.says(TERMS, "NOTES, 6 at most, numbered as they come: a KIND:");
        Sentences.says(TERMS, "an EVENING; SIGNS:");
        long[] right = {5, 1, 3, 2, 0x11};
        for (int kind = 0; kind <= 5; kind++) LIVED.then(3, "note", kind, 1, 3, 2, 0x11).then(kind, "noteOf", 3, 0);
        for (int e = 0; e <= 2; e++) LIVED.then(3, "note", 5, e, 3, 2, 0x11).then(e, "noteOf", 3, 1);
        for (int a = 0; a <= 6; a++) LIVED.then(3, "note", 5, 1, a, 2, 0x11).then(a, "noteOf", 3, 2);
        for (int n = 1; n <= 6; n++) LIVED.then(3, "note", 5, 1, 3, n, 0x11).then(n, "noteOf", 3, 3);
        LIVED.then(3, "note", 5, 1, 3, 2, 0);
        LIVED.bounds(BAD, "note", right, 0, -1, 6, LOW, HIGH);
        LIVED.bounds(BAD, "note", right, 1, -1, 3, LOW, HIGH);
        LIVED.bounds(BAD, "note", right, 2, -1, 7, LOW, HIGH);
        LIVED.bounds(BAD, "note", right, 3, 0, 7, -1, 8, LOW, HIGH);
        LIVED.bounds(BAD, "note", right, 4, -1, LOW);
        Scene five = NEW;
        for (int i = 0; i < 5; i++) five = five.then(i, "note", 5, 1, 3, 2, 0x11);
        five.then(5, "note", right).shows(FULL, "note", right);
        five.then(5, "note", right).shows(6, "many", 0);
        SIX.shows(FULL, "note", right);
        Sentences.says(TERMS, "of several the first named: BAD (-1) there is no such thing, or a number is not as told; FULL (-2)");
        SIX.refuses(BAD, "note", new long[] {6, 1, 3, 2, 0x11}, new long[] {5, 3, 3, 2, 0x11}, new long[] {5, 1, 7, 2, 0x11},
                new long[] {5, 1, 3, 7, 0x11}, new long[] {5, 1, 3, 0, 0x11}, new long[] {5, 1, 3, 2, -1});
    }

    private static void noteSigns() {
        Sentences.says(6, "(n of them; higher ones count nothing)");
        int[] due = {1, 2, 3, 4, 5, 6};
        for (int n = 1; n <= 6; n++) {
            Scene told = NEW.then(0, "note", 0, 0, 0, n, 0x7a123456);
            for (int i = 0; i < n; i++) told.then(due[6 - n + i], "noteOf", 0, 10 + i);
            told.then(BAD, "noteOf", 0, 10 + n);
            Scene high = NEW.then(0, "note", 0, 0, 0, n, HIGH);
            for (int i = 0; i < n; i++) high.then(15, "noteOf", 0, 10 + i);
            Scene low = NEW.then(0, "note", 0, 0, 0, n, 0x7f000000);
            for (int i = 0; i < n; i++) low.then(0, "noteOf", 0, 10 + i);
        }
    }

    private static void noteOf() {
        Sentences.says(7, "Of a NOTE: what = 0 KIND, 1 EVENING, 2 A, 3 how many SIGNS, 10 and more: SIGN what - 10 (0 the first). BAD.");
        int[] due = {4, 2, 3, 3};
        for (int what = 0; what < 4; what++) LIVED.shows(due[what], "noteOf", 2, what);
        for (int place = 0; place < 3; place++) LIVED.shows(4 + place, "noteOf", 2, 10 + place);
        for (int place = 0; place < 6; place++) SIX.shows(1 + place, "noteOf", 5, 10 + place);
        SIX.shows(1, "noteOf", 0, 10);
        SIX.refuses(BAD, "noteOf", new long[] {0, 11}, new long[] {5, 16}, new long[] {6, 10}, new long[] {6, 0});
        LIVED.bounds(BAD, "noteOf", new long[] {2, 0}, 0, -1, 3, 6, LOW, HIGH);
        LIVED.bounds(BAD, "noteOf", new long[] {2, 0}, 1, -1, 4, 9, 13, 15, 16, LOW, LOW + 9, LOW + 10, HIGH);
    }

    private static void alter() {
        Sentences.says(8, "A SIGN becomes another one: what it was. BAD.");
        for (int place = 0; place < 3; place++) {
            for (int sign = 0; sign <= 15; sign++) {
                Scene altered = LIVED.then(4 + place, "alter", 2, place, sign);
                for (int i = 0; i < 3; i++) altered.then(i == place ? sign : 4 + i, "noteOf", 2, 10 + i);
            }
        }
        SIX.then(6, "alter", 5, 5, 15).then(15, "alter", 5, 5, 0).then(0, "alter", 5, 5, 6).same(SIX);
        LIVED.bounds(BAD, "alter", new long[] {2, 1, 7}, 0, -1, 3, 6, LOW, HIGH);
        LIVED.bounds(BAD, "alter", new long[] {2, 1, 7}, 1, -1, 3, 5, LOW, HIGH);
        LIVED.bounds(BAD, "alter", new long[] {2, 1, 7}, 2, -1, 16, LOW, HIGH);
        SIX.refuses(BAD, "alter", new long[] {5, 6, 1}, new long[] {0, 1, 1}, new long[] {6, 0, 1});
        NEW.with("note", 0, 0, 0, 1, 2).then(14 * 225, "worlds").then(2, "alter", 0, 0, 15).then(225, "worlds");
    }

    private static void move() {
        Sentences.says(9, "A NOTE is of another EVENING: of which it was. BAD.");
        for (int e = 0; e < 3; e++) LIVED.then(2, "move", 2, e).then(e, "noteOf", 2, 1).then(e, "move", 2, 2).same(LIVED);
        LIVED.bounds(BAD, "move", new long[] {2, 1}, 0, -1, 3, 6, LOW, HIGH);
        LIVED.bounds(BAD, "move", new long[] {2, 1}, 1, -1, 3, LOW, HIGH);
        NEW.shows(BAD, "move", 0, 0);
        SIX.then(2, "move", 5, 0).then(2, "move", 4, 0).then(0, "eveningOf", 2, 2);
        NEW.with("evening", 2, 2, 3).with("note", 0, 0, 0, 1, 3).then(13 * 15 * 2, "worlds").then(0, "move", 0, 2).then(0, "worlds");
    }

    private static void worth() {
        Sentences.says(TERMS, "WORTH of a NOTE by a BASE b (2 to 16): note: its SIGNS as digits to the base b. strokes: how many SIGNS it has.");
        Sentences.says(TERMS, "turned: as a note whose SIGNS stand the other way round. debt: 0 less what strokes are.");
        Sentences.says(10, "WORTH by a BASE (may be below 0). NO: no such NOTE, base (2 to 16).");
        Scene notes = Scene.told("note 0:1,2,3; strokes 0:9,0; broken 0 at 2:1,2,3; left 0 at 2:1,2,3; turned 0:1,2,3; debt 0:5;");
        for (int b = 2; b <= 16; b++) {
            notes.then((b + 2) * b + 3, "worth", 0, b);
            notes.then(2, "worth", 1, b);
            notes.then((b + 2) * (b + 1) + 3, "worth", 2, b);
            notes.then((b + 2) * (b - 1) + 3, "worth", 3, b);
            notes.then((3 * b + 2) * b + 1, "worth", 4, b);
            notes.then(-1, "worth", 5, b);
        }
        notes.shows(-1, "worth", 5, 2);
        for (int note : new int[] {0, 1, 5}) notes.bounds(NO, "worth", new long[] {note, 2}, 1, 1, 17, 0, -1, LOW, HIGH);
        notes.bounds(NO, "worth", new long[] {0, 2}, 0, -1, 6, LOW, HIGH);
        LIVED.bounds(NO, "worth", new long[] {2, 16}, 0, -1, 3, LOW, HIGH);
        NEW.shows(NO, "worth", 0, 2);
        NEW.with("note", 0, 0, 0, 6, HIGH).then(16777215, "worth", 0, 16);
        NEW.with("note", 2, 0, 0, 6, HIGH).then(15L * (17 * 17 * 17 * 17 * 17 + 17 * 17 * 17 * 17 + 17 * 17 * 17 + 17 * 17 + 17 + 1), "worth", 0, 16);
        NEW.with("note", 5, 0, 0, 6, 0).then(-6, "worth", 0, 16);
        NEW.with("note", 0, 0, 0, 6, 0).then(0, "worth", 0, 16);
    }

    private static void worthBehindA() {
        Sentences.says(TERMS, "broken: the first A SIGNS to the base b, those behind by b and 1"
                + " (what stands ahead of each of these times b and 1, and it). left: as broken, but by b less 1 behind them.");
        for (int kind = 2; kind <= 3; kind++) {
            int by = kind == 2 ? 11 : 9;
            for (int a = 0; a <= 6; a++) {
                long due = 0;
                for (int i = 0; i < 4; i++) due = due * (i < a ? 10 : by) + i + 1;
                NEW.with("note", kind, 0, a, 4, 0x1234).then(due, "worth", 0, 10);
            }
            NEW.with("note", kind, 0, 0, 1, 7).then(7, "worth", 0, 10);
        }
        NEW.with("note", 3, 0, 0, 3, 0x123).then(6, "worth", 0, 2);
        NEW.with("note", 3, 0, 1, 3, 0x123).then(6, "worth", 0, 2);
        NEW.with("note", 3, 0, 2, 3, 0x123).then(7, "worth", 0, 2);
        NEW.with("note", 2, 0, 0, 2, 0x10).then(17, "worth", 0, 16);
    }

    /** The bases of 2 to 16 that are above a number. */
    private static int above(int number) {
        return ALL & -(1 << Math.max(0, number) + 1);
    }

    private static void can() {
        Sentences.says(11, "BASES (2 to 16, bit b) in which a NOTE CAN BE, whatever its EVENING, a set. BAD.");
        Sentences.says(TERMS, "A NOTE CAN BE in a BASE: note, turned: if all its SIGNS are below it. broken: the first A SIGNS below b,"
                + " the others below b and 1. left: likewise, the others below b less 1. strokes, debt: if all its SIGNS are 1.");
        for (int sign = 0; sign <= 15; sign++) {
            for (int place = 0; place < 3; place++) {
                int signs = sign << 4 * (2 - place);
                int ones = 0x111 & ~(15 << 4 * (2 - place)) | signs;
                NEW.with("note", 0, 0, 0, 3, signs).then(above(sign), "can", 0);
                NEW.with("note", 4, 0, 0, 3, signs).then(above(sign), "can", 0);
                for (int a = 0; a <= 4; a++) {
                    NEW.with("note", 2, 0, a, 3, signs).then(place < a ? above(sign) : above(sign - 1), "can", 0);
                    // A sign 0 can be everywhere behind: b less 1 is 1 at least.
                    NEW.with("note", 3, 0, a, 3, signs).then(place < a ? above(sign) : above(sign + 1), "can", 0);
                }
                NEW.with("note", 1, 0, 0, 3, ones).then(sign == 1 ? ALL : 0, "can", 0);
                NEW.with("note", 5, 0, 0, 3, ones).then(sign == 1 ? ALL : 0, "can", 0);
            }
        }
        LIVED.with("evening", 2, 2, 2).shows(above(6), "can", 2);
        LIVED.with("evening", 2, 16, 16).shows(above(6), "can", 2);
        LIVED.bounds(BAD, "can", new long[] {0}, 0, -1, 3, 6, LOW, HIGH);
        SIX.bounds(BAD, "can", new long[] {0}, 0, -1, 6);
        SIX.shows(above(6), "can", 5);
        NEW.shows(BAD, "can", 0);
    }
}
