/** The edges of promises 12 to 23: just at them and just beyond, and that a refused call changes nothing. */
final class LinesEdges {
    private static final int TERMS = Sentences.TERMS;
    private static final int BAD = Scene.BAD, FULL = Scene.FULL, NONE = Scene.NONE, STATE = Scene.STATE;
    private static final int LOW = Scene.LOW, HIGH = Scene.HIGH;
    private static final long NO = Scene.NO;
    private static final int ALL = 131068;
    private static final Scene NEW = Scene.fresh();
    private static final Scene LIVED = Scene.lived().withBytes();
    private static final String ALL_NEEDED = "note 0:1,0;note 1:1,0;note 2:1,0;note 0:1,1,2;note 1:2,0;strokes 2:1,1,1,1,1,1;"
            + "same 0 1;same 1 2;whole 4 4;whole 3 4;whole 2 3;more 1 5;";
    /** Evening 0 has base 10, and note 0 is worth what its signs say. */
    private static final String BY_TEN = "evening 0 10 10;";

    static void all() {
        line();
        lineFull();
        lineOf();
        strike();
        worlds();
        sameAndMore();
        sums();
        multiples();
        leastToMost();
        world();
        may();
        sure();
        holds();
        proof();
        mendedRefusals();
        mendedFirst();
        mendedAtTheEnds();
        which();
        gain();
        askedAhead();
        changedTwice();
        linesOfEvenings();
    }

    private static void line() {
        Sentences.says(12, "A LINE: its number (what counts nothing may be any number).");
        for (int sort = 0; sort <= 3; sort++) LIVED.then(2, "line", sort, 2, 2, 2).then(sort, "lineOf", 2, 0);
        for (int any : new int[] {LOW, -1, 0, 3, 6, 100, HIGH}) {
            LIVED.then(2, "line", 0, 2, 2, any).then(0, "lineOf", 2, 3);
            LIVED.then(2, "line", 1, 2, 2, any).then(0, "lineOf", 2, 3);
            LIVED.then(2, "line", 3, 2, any, 2).then(0, "lineOf", 2, 2);
        }
        Sentences.says(12, "BAD; FULL.");
        LIVED.bounds(BAD, "line", new long[] {2, 2, 2, 2}, 0, -1, 4, LOW, HIGH);
        for (int sort = 0; sort <= 3; sort++) LIVED.bounds(BAD, "line", new long[] {sort, 2, 2, 2}, 1, -1, 3, 6, LOW, HIGH);
        for (int sort = 0; sort <= 2; sort++) LIVED.bounds(BAD, "line", new long[] {sort, 2, 2, 2}, 2, -1, 3, 6, LOW, HIGH);
        LIVED.bounds(BAD, "line", new long[] {2, 2, 2, 2}, 3, -1, 3, 6, LOW, HIGH);
        Sentences.says(TERMS, "a number 1 to 99;");
        LIVED.bounds(BAD, "line", new long[] {3, 2, 2, 2}, 3, 0, 100, -1, -99, LOW, HIGH);
        for (int z : new int[] {1, 99}) LIVED.then(2, "line", 3, 2, 2, z).then(z, "lineOf", 2, 3);
        for (int sort = 0; sort <= 3; sort++) NEW.shows(BAD, "line", sort, 0, 0, 1);
        Scene one = NEW.with("note", 0, 0, 0, 1, 1);
        for (int sort = 0; sort <= 2; sort++) one.then(0, "line", sort, 0, 0, 0);
        one.refuses(BAD, "line", new long[] {0, 1, 0, 0}, new long[] {1, 0, 1, 0}, new long[] {2, 0, 0, 1}, new long[] {3, 1, 0, 1});
    }

    private static void lineFull() {
        Sentences.says(TERMS, "LINES, 6 at most, numbered as they come: a SORT:");
        Scene lines = LIVED;
        for (int i = 2; i < 6; i++) lines = lines.then(i, "line", 3, 2, 0, i);
        lines.shows(6, "many", 1);
        for (int sort = 0; sort <= 3; sort++) lines.shows(FULL, "line", sort, 2, 2, 2);
        lines.refuses(BAD, "line", new long[] {4, 2, 2, 2}, new long[] {0, 3, 2, 2}, new long[] {1, 2, 3, 2}, new long[] {2, 2, 2, 3},
                new long[] {3, 2, 2, 0}, new long[] {3, 2, 2, 100});
        lines.then(5, "strike", 5).then(5, "line", 0, 0, 0, 0).shows(FULL, "line", 0, 0, 0, 0);
    }

    private static void lineOf() {
        Sentences.says(13, "Of a LINE: what = 0 SORT, 1 x, 2 y, 3 z (0 what counts nothing). BAD.");
        int[][] due = {{1, 0, 1, 0}, {3, 2, 0, 2}};
        for (int line = 0; line < 2; line++) {
            for (int what = 0; what < 4; what++) LIVED.shows(due[line][what], "lineOf", line, what);
        }
        LIVED.bounds(BAD, "lineOf", new long[] {1, 0}, 0, -1, 2, 6, LOW, HIGH);
        LIVED.bounds(BAD, "lineOf", new long[] {1, 0}, 1, -1, 4, LOW, HIGH);
        Scene six = Scene.told(ALL_NEEDED);
        six.shows(1, "lineOf", 5, 0);
        six.shows(5, "lineOf", 5, 2);
        six.shows(BAD, "lineOf", 6, 0);
        NEW.shows(BAD, "lineOf", 0, 0);
    }

    private static void strike() {
        Sentences.says(14, "A LINE goes (those behind it are one less): how many are left. BAD.");
        Scene six = Scene.told("note 0:0;whole 0 1;whole 0 2;whole 0 3;whole 0 4;whole 0 5;whole 0 6;").with("keep").withBytes();
        for (int line = 0; line < 6; line++) {
            Scene struck = six.then(5, "strike", line);
            for (int i = 0; i < 5; i++) struck.then(i < line ? i + 1 : i + 2, "lineOf", i, 3);
            struck.then(BAD, "lineOf", 5, 3);
            struck.shows(BAD, "strike", 5);
        }
        six.bounds(BAD, "strike", new long[] {0}, 0, -1, 6, LOW, HIGH);
        LIVED.bounds(BAD, "strike", new long[] {0}, 0, -1, 2, LOW, HIGH);
        Scene none = six;
        for (int left = 5; left >= 0; left--) none = none.then(left, "strike", 0);
        none.shows(BAD, "strike", 0);
        none.then(1, "again").then(6, "many", 1);
        Scene.told("note 0:1; whole 0 2; whole 0 1;").then(0, "worlds").then(1, "strike", 0).then(3375, "worlds");
    }

    private static void worlds() {
        Sentences.says(15, "How many WORLDS there are.");
        NEW.shows(3375, "worlds");
        NEW.with("evening", 0, 3, 3).with("evening", 1, 16, 16).with("evening", 2, 2, 2).shows(1, "worlds");
        Scene.told("strokes 0:0;").shows(0, "worlds");
        Scene.told("note 0:15;").shows(225, "worlds");
        Scene.told("note 0:15;note 1:15;note 2:15;").shows(1, "worlds");
        Scene.told("evening 0 2 15;note 0:15;").shows(0, "worlds");
        Scene.told(ALL_NEEDED).shows(0, "worlds");
        LIVED.shows(Scene.told("evening 1 3 9; note 0:1,3; strokes 1:1,1; turned 2 at 3:4,5,6; whole 2 2;").with("worlds").answer(), "worlds");
    }

    private static void sameAndMore() {
        Sentences.says(TERMS, "0 same (x and y are worth the same), 1 more (x is worth more than y)");
        for (int x = 4; x <= 6; x++) {
            Scene two = Scene.told(BY_TEN + "note 0:5;note 0:" + x + ";");
            two.with("line", 0, 1, 0, 0).then(x == 5 ? 225 : 0, "worlds");
            two.with("line", 1, 1, 0, 0).then(x == 6 ? 225 : 0, "worlds");
            two.with("line", 1, 0, 1, 0).then(x == 4 ? 225 : 0, "worlds");
            two.with("line", 0, 1, 0, 0).then(x == 5 ? 1 : 0, "holds", 0, 10, 2, 2);
            two.with("line", 1, 1, 0, 0).then(x == 6 ? 1 : 0, "holds", 0, 10, 2, 2);
        }
        Scene itself = Scene.told("note 0:7;");
        itself.with("line", 0, 0, 0, 0).then(9 * 225, "worlds");
        itself.with("line", 1, 0, 0, 0).then(0, "worlds");
        Scene below = Scene.told("debt 0:1,1;debt 1:1,1,1;note 2:0;");
        below.with("line", 1, 0, 1, 0).then(3375, "worlds");
        below.with("line", 1, 1, 0, 0).then(0, "worlds");
        below.with("line", 1, 2, 0, 0).then(3375, "worlds");
        // b is c; b is more than c.
        Scene bases = Scene.told("note 0:1,0;note 1:1,0;");
        bases.with("line", 0, 0, 1, 0).then(15 * 15, "worlds");
        bases.with("line", 1, 0, 1, 0).then(15 * 14 / 2 * 15, "worlds");
    }

    private static void sums() {
        Sentences.says(TERMS, "2 sum (x and y together are worth what z is)");
        for (int z = 6; z <= 8; z++) {
            Scene signs = Scene.told(BY_TEN + "note 0:3;note 0:4;note 0:" + z + ";").with("line", 2, 0, 1, 2);
            signs.then(z == 7 ? 225 : 0, "worlds");
            signs.then(z == 7 ? 1 : 0, "holds", 0, 10, 16, 2);
        }
        Scene three = Scene.told("note 0:1,0;note 1:1,0;note 2:1,0;sum 0 1 2;");
        three.then(91, "worlds").then(2, "world", 0, 0).then(4, "world", 0, 2).then(14, "world", 90, 0).then(16, "world", 90, 2);
        three.then(131068 & -16, "may", 2);
        Scene twice = Scene.told("note 0:2;note 1:4;sum 0 0 1;");
        twice.then(14 * 12 * 15, "worlds");
        Scene itself = Scene.told("note 0:1;note 0:0;sum 0 0 0;");
        itself.then(0, "worlds");
        itself.with("line", 2, 1, 1, 1).with("strike", 0).then(3375, "worlds");
        Scene debt = Scene.told("strokes 0:1,1;debt 1:1,1;note 2:0;sum 0 1 2;");
        debt.then(3375, "worlds");
        debt.with("alter", 2, 0, 1).then(0, "worlds");
    }

    private static void multiples() {
        Sentences.says(TERMS, "3 whole (x is worth a multiple of z, a number 1 to 99; y counts nothing)");
        for (int x = 0; x <= 9; x++) {
            for (int z : new int[] {1, 2, 3, 4, 5, 9, 99}) {
                Scene one = Scene.told(BY_TEN + "note 0:" + x + ";").with("line", 3, 0, HIGH, z);
                one.then(x % z == 0 ? 225 : 0, "worlds");
                one.then(x % z == 0 ? 1 : 0, "holds", 0, 10, 2, 2);
            }
        }
        Scene hundred = Scene.told(BY_TEN + "note 0:9,9;");
        hundred.with("line", 3, 0, 0, 99).then(225, "worlds");
        hundred.with("line", 3, 0, 0, 98).then(0, "worlds");
        for (int z = 1; z <= 7; z++) {
            Scene.told("debt 0:1,1,1,1,1,1;").with("line", 3, 0, 0, z).then(6 % z == 0 ? 3375 : 0, "worlds");
        }
    }

    private static void leastToMost() {
        Sentences.says(TERMS, "A WORLD: a BASE for each EVENING, LEAST to MOST, by which all NOTES of it CAN BE, and all LINES hold.");
        Scene nine = Scene.told("note 1:8;");
        nine.with("evening", 1, 2, 8).then(0, "worlds");
        nine.with("evening", 1, 2, 9).then(225, "worlds").then(512, "may", 1);
        nine.with("evening", 1, 9, 9).then(225, "worlds");
        nine.with("evening", 1, 10, 16).then(7 * 225, "worlds");
        Scene two = Scene.told("note 1:8;note 1:9;");
        two.then(7 * 225, "worlds");
        two.with("move", 1, 2).then(8 * 7 * 15, "worlds");
        Scene.told("note 0:1,0;whole 0 9;").then(512, "may", 0).with("evening", 0, 9, 9).then(225, "worlds");
        Scene.told("evening 0 2 8;note 0:1,0;whole 0 9;").then(0, "worlds");
    }

    private static void world() {
        Sentences.says(16, "The BASE of an EVENING in the k-th WORLD (from 0). BAD: evening; NONE.");
        Sentences.says(TERMS, "WORLDS are in order by EVENING 0, then 1, then 2.");
        int[][] first = {{0, 2, 2, 2}, {1, 2, 2, 3}, {14, 2, 2, 16}, {15, 2, 3, 2}, {224, 2, 16, 16}, {225, 3, 2, 2}, {3374, 16, 16, 16}};
        for (int[] f : first) {
            for (int e = 0; e < 3; e++) NEW.shows(f[1 + e], "world", f[0], e);
        }
        NEW.bounds(NONE, "world", new long[] {0, 0}, 0, 3375, 3376, -1, LOW, HIGH);
        LIVED.bounds(BAD, "world", new long[] {0, 0}, 1, -1, 3, LOW, HIGH);
        LIVED.refuses(BAD, "world", new long[] {-1, 3}, new long[] {HIGH, -1});
        Scene one = NEW.with("evening", 0, 3, 3).with("evening", 1, 16, 16).with("evening", 2, 2, 2);
        one.shows(16, "world", 0, 1);
        one.bounds(NONE, "world", new long[] {0, 0}, 0, 1, -1);
        Scene none = Scene.told("strokes 0:0;");
        for (int e = 0; e < 3; e++) none.shows(NONE, "world", 0, e);
        none.shows(BAD, "world", 0, 3);
    }

    private static void may() {
        Sentences.says(17, "BASES of an EVENING in WORLDS, a set. BAD.");
        for (int e = 0; e < 3; e++) {
            NEW.shows(ALL, "may", e);
            NEW.with("evening", e, 2, 2).shows(4, "may", e);
            NEW.with("evening", e, 16, 16).shows(1 << 16, "may", e);
            Scene.told("strokes 1:0;").shows(0, "may", e);
        }
        LIVED.bounds(BAD, "may", new long[] {0}, 0, -1, 3, LOW, HIGH);
        Scene.told("strokes 1:0;").shows(BAD, "may", 3);
        Scene.told("evening 2 4 5;note 0:1,0;note 2:1,0;same 0 1;").shows(16 + 32, "may", 0);
    }

    private static void sure() {
        Sentences.says(TERMS, "SURE of an EVENING: its BASE, if it is the same in all WORLDS.");
        Sentences.says(18, "SURE. BAD; NONE: there are several, or no WORLD.");
        for (int b = 2; b <= 16; b++) {
            for (int e = 0; e < 3; e++) NEW.with("evening", e, b, b).shows(b, "sure", e);
        }
        for (int e = 0; e < 3; e++) {
            NEW.shows(NONE, "sure", e);
            NEW.with("evening", e, 2, 3).shows(NONE, "sure", e);
            NEW.with("evening", e, 15, 16).shows(NONE, "sure", e);
            Scene.told("evening 0 5 5;evening 1 5 5;evening 2 5 5;strokes 0:0;").shows(NONE, "sure", e);
        }
        Scene.told("note 0:1,0;note 1:1,0,0;same 0 1;evening 1 4 16;").shows(16, "sure", 0);
        LIVED.bounds(BAD, "sure", new long[] {0}, 0, -1, 3, LOW, HIGH);
        Scene.told("strokes 0:0;").shows(BAD, "sure", -1);
    }

    private static void holds() {
        Sentences.says(19, "Whether a LINE holds if EVENINGS 0, 1, 2 have these BASES (2 to 16), whether NOTES CAN BE in them or not: 1, 0. BAD.");
        Scene sum = Scene.told("evening 0 5 5;note 0:1,0;note 1:1,0;note 2:1,0;sum 0 1 2;").with("keep").withBytes();
        sum.shows(1, "holds", 0, 2, 2, 4);
        sum.shows(1, "holds", 0, 2, 14, 16);
        sum.shows(0, "holds", 0, 2, 15, 16);
        sum.shows(0, "holds", 0, 16, 2, 16);
        long[] right = {0, 2, 2, 4};
        for (int which = 1; which <= 3; which++) sum.bounds(BAD, "holds", right, which, 1, 17, 0, -1, LOW, HIGH);
        sum.bounds(BAD, "holds", right, 0, -1, 1, 6, LOW, HIGH);
        Scene strokes = Scene.told("strokes 0:0;note 1:15;same 0 0;more 1 0;");
        strokes.shows(1, "holds", 0, 2, 2, 2);
        strokes.shows(1, "holds", 1, 2, 2, 2);
        NEW.shows(BAD, "holds", 0, 2, 2, 2);
    }

    private static void proof() {
        Sentences.says(20, "PROOF: the set of LINES. NONE: there is a WORLD with all.");
        Sentences.says(TERMS, "PROOF: the fewest LINES by which alone there is no WORLD (none may be needed); of several the least as bits.");
        NEW.shows(NONE, "proof");
        LIVED.shows(NONE, "proof");
        Scene.told("evening 0 3 3;evening 1 3 3;evening 2 3 3;note 0:2;").shows(NONE, "proof");
        Scene.told("evening 0 2 2;evening 1 3 3;evening 2 3 3;note 0:2;").shows(0, "proof");
        Scene.told("strokes 0:0;more 0 0;more 0 0;").shows(0, "proof");
        Scene.told("note 0:1;more 0 0;").shows(1, "proof");
        Scene.told("note 0:1;same 0 0;same 0 0;same 0 0;same 0 0;same 0 0;more 0 0;").shows(32, "proof");
        Scene.told("note 0:1;more 0 0;more 0 0;more 0 0;more 0 0;more 0 0;more 0 0;").shows(1, "proof");
        Scene.told("note 0:1,0;whole 0 2;whole 0 3;whole 0 5;").shows(7, "proof");
        Scene.told("note 0:1,0;whole 0 2;whole 0 3;whole 0 5;whole 0 17;").shows(8, "proof");
        Scene.told("note 0:1,0;whole 0 9;whole 0 3;whole 0 5;whole 0 8;").shows(5, "proof");
        Scene.told("note 0:1,0;whole 0 7;whole 0 3;whole 0 8;whole 0 9;").shows(3, "proof");
        Scene.told(ALL_NEEDED).shows(63, "proof");
        for (int line = 0; line < 6; line++) Scene.told(ALL_NEEDED).with("strike", line).shows(NONE, "proof");
    }

    private static void mendedRefusals() {
        Sentences.says(21, "MENDED: what = 0 the NOTE, 1 the place, 2 the new SIGN. BAD; NONE: there is none; STATE: there is a WORLD as it is.");
        for (int what = 0; what <= 2; what++) {
            NEW.shows(STATE, "mended", what);
            LIVED.shows(STATE, "mended", what);
            Scene.told("evening 0 2 2;note 0:2;note 0:2;").shows(NONE, "mended", what);
            Scene.told("note 0:1;more 0 0;").shows(NONE, "mended", what);
            Scene.told("strokes 0:1;whole 0 2;").shows(NONE, "mended", what);
            Scene.told("evening 0 3 3;evening 1 3 3;evening 2 3 3;note 0:2;").shows(STATE, "mended", what);
        }
        Scene wrong = Scene.told("evening 0 3 3;note 0:1,3;").with("keep").withBytes();
        int[] due = {0, 1, 0};
        for (int what = 0; what <= 2; what++) wrong.shows(due[what], "mended", what);
        for (Scene scene : new Scene[] {NEW, LIVED, wrong, Scene.told("strokes 0:0,0;")}) {
            scene.bounds(BAD, "mended", new long[] {0}, 0, -1, 3, LOW, HIGH);
        }
    }

    private static void mends(String text, int note, int place, int sign) {
        Scene scene = Scene.told(text);
        scene.shows(note, "mended", 0);
        scene.shows(place, "mended", 1);
        scene.shows(sign, "mended", 2);
        Checks.due("a world by the change in " + text, scene.with("alter", note, place, sign).with("worlds").answer() > 0 ? 1 : 0, 1);
    }

    private static void mendedFirst() {
        Sentences.says(TERMS, "MENDED: the first change of one SIGN to another one (by NOTES, then by places, then by the new SIGN) with which there is a WORLD.");
        mends(BY_TEN + "note 0:4;note 0:5;same 0 1;", 0, 0, 5);
        mends(BY_TEN + "note 0:4,4;note 0:5,5;more 0 1;", 0, 0, 6);
        mends(BY_TEN + "note 0:5,4;note 0:5,5;more 0 1;", 0, 0, 6);
        mends(BY_TEN + "note 0:9,4;note 0:9,5;more 0 1;", 0, 1, 6);
        mends(BY_TEN + "note 0:9,9;note 0:9,9;more 0 1;", 1, 0, 0);
        mends(BY_TEN + "note 0:0,9;note 0:0,9;more 1 0;", 0, 1, 0);
        mends(BY_TEN + "note 0:0,0;note 0:0,0;more 1 0;", 1, 0, 1);
        mends(BY_TEN + "note 0:0,1;whole 0 9;", 0, 0, 8);
        mends(BY_TEN + "note 0:0,1;whole 0 8;", 0, 1, 0);
        mends("evening 0 2 2;note 0:1;note 0:2;", 1, 0, 0);
        // 3,0 is worth 9 by 3, where it can't be.
        mends("evening 0 3 4;evening 1 10 10;note 0:1,0;note 1:9;same 0 1;", 1, 0, 3);
        mends("evening 2 10 10;strokes 0:1;strokes 0:1,1;note 2:1;sum 0 1 2;", 2, 0, 3);
        mends("evening 2 10 10;strokes 0:1;note 2:9;strokes 1:1,1,1;sum 0 1 2;", 1, 0, 2);
        mends("evening 2 10 10;strokes 0:1;note 2:5;more 0 1;", 1, 0, 0);
        mends("evening 2 10 10;strokes 0:1;note 2:5;same 0 1;", 1, 0, 1);
        // Note 0 must stay 5, and is 5 again when note 1 is looked at.
        mends("evening 0 10 10;note 0:5;note 0:6;strokes 0:1;whole 0 5;more 0 2;same 0 1;", 1, 0, 5);
        mends("note 0:1,0;note 1:1,0;note 2:1,0;sum 0 1 2;sum 2 0 1;", 0, 0, 0);
    }

    private static void mendedAtTheEnds() {
        Sentences.says(TERMS, "SIGNS: 1 to 6 numbers 0 to 15");
        mends("note 0:14;strokes 1:1;whole 0 15;more 0 1;", 0, 0, 15);
        mends("evening 0 3 3;note 0:3;", 0, 0, 0);
        mends("strokes 0:1;strokes 0:1;strokes 0:1;strokes 0:1;strokes 0:1;strokes 0:1,1,1,1,1,0;", 5, 5, 1);
        mends("debt 0:15,1,1,1,1,1;strokes 0:1;", 0, 0, 1);
        mends("evening 0 15 15;note 0:14;note 0:15;", 1, 0, 0);
    }

    private static void which() {
        Sentences.says(22, "EVENING of a NOTE: a set. BAD.");
        Sentences.says(TERMS, "EVENING of a NOTE: those in which it could be instead (or is), so that there is a WORLD.");
        Scene three = Scene.told("evening 0 2 4;evening 1 5 5;evening 2 6 7;note 1:3;").with("keep").withBytes();
        int[] due = {7, 7, 7, 7, 6, 4, 4, 0};
        for (int sign = 0; sign < 8; sign++) three.with("alter", 0, 0, sign).shows(due[sign], "which", 0);
        three.with("note", 0, 0, 0, 1, 15).shows(0, "which", 0);
        three.with("note", 0, 0, 0, 1, 4).shows(6, "which", 1);
        three.with("note", 0, 0, 0, 1, 4).shows(0, "which", 0);
        three.bounds(BAD, "which", new long[] {0}, 0, -1, 1, 6, LOW, HIGH);
        NEW.shows(BAD, "which", 0);
        Scene six = Scene.told(ALL_NEEDED);
        six.bounds(BAD, "which", new long[] {0}, 0, -1, 6);
        six.shows(0, "which", 5);
        LIVED.shows(7, "which", 2);
        for (int e = 0; e < 3; e++) {
            NEW.with("evening", e, 16, 16).with("note", 0, e, 0, 1, 15).with("note", 0, e, 0, 1, 1).shows(7, "which", 1);
            NEW.with("evening", e, 2, 2).with("note", 0, e, 0, 1, 1).with("note", 0, e, 0, 1, 2).shows(7 & ~(1 << e), "which", 1);
        }
    }

    private static void gain() {
        Sentences.says(TERMS, "GAIN: WORTH by one BASE less that by another one.");
        Sentences.says(23, "GAIN: WORTH by base to less that by base from (may be below 0). NO: as worth().");
        Scene notes = Scene.told("note 0:1,2;debt 0:1,1;note 2:15,15,15,15,15,15;").withBytes();
        notes.shows(14, "gain", 0, 2, 16);
        notes.shows(-14, "gain", 0, 16, 2);
        notes.shows(0, "gain", 0, 9, 9);
        notes.shows(0, "gain", 1, 2, 16);
        notes.shows(16777215 - 15 * 63, "gain", 2, 2, 16);
        notes.shows(15 * 63 - 16777215, "gain", 2, 16, 2);
        notes.bounds(NO, "gain", new long[] {0, 2, 2}, 0, -1, 3, 6, LOW, HIGH);
        notes.bounds(NO, "gain", new long[] {0, 2, 2}, 1, 1, 17, 0, -1, LOW, HIGH);
        notes.bounds(NO, "gain", new long[] {1, 2, 2}, 2, 1, 17, 0, -1, LOW, HIGH);
        NEW.shows(NO, "gain", 0, 2, 2);
    }

    /** What was answered ahead of a change does not stay behind it. */
    private static Scene asked(Scene scene) {
        return scene.with("worlds").with("may", 0).with("proof").with("mended", 0).with("which", 0).with("world", 0, 0);
    }

    private static void askedAhead() {
        Sentences.says(15, "How many WORLDS there are.");
        Scene two = Scene.told("note 0:1,0;note 1:2;").with("sheet", 0, 0, 2).with("put", 0, 0, 9);
        changes(two, "evening", 0, 3, 3);
        changes(two, "note", 0, 0, 0, 1, 7);
        changes(two, "note", 1, 0, 0, 1, 7);
        changes(two, "alter", 0, 0, 5);
        changes(two, "move", 1, 0);
        changes(two, "line", 0, 0, 1, 0);
        changes(two, "line", 1, 0, 0, 0);
        changes(two, "signs", 0, 0, 0, 2);
        changes(two.with("line", 1, 0, 0, 0), "strike", 0);
        changes(two.with("line", 1, 0, 0, 0), "line", 0, 0, 0, 0);
        changes(two, "valley");
        changes(two.fed("strokes 1:2;"), "valley");
        changes(two.with("keep").with("line", 1, 0, 0, 0), "again");
        changes(two.with("alter", 0, 0, 7), "add", 0, 1);
        Scene wrong = two.with("alter", 0, 1, 15).with("evening", 0, 2, 15);
        changes(wrong, "alter", 0, 1, 14);
        changes(wrong, "evening", 0, 2, 3);
        changes(wrong, "note", 0, 0, 0, 1, 15);
        // A note that was tried on other evenings is where it was.
        Scene.told("evening 0 2 4;note 0:5;more 0 0;").with("worlds").with("which", 0).shows(0, "proof");
        Scene.told("evening 0 3 3;evening 1 9 9;evening 2 2 2;note 0:5;note 1:2;").with("worlds").with("which", 1).shows(0, "mended", 0);
        Scene.told("evening 2 2 2;note 0:5;note 1:2;").with("worlds").with("which", 1).shows(11 * 14, "worlds");
    }

    /** The scenes behind one change each. */
    private static Scene[] changed(Scene scene) {
        return new Scene[] {scene.with("evening", 0, 3, 5), scene.with("note", 0, 0, 0, 1, 7), scene.with("alter", 0, 0, 5),
            scene.with("alter", 0, 1, 3), scene.with("move", 1, 0), scene.with("line", 0, 0, 1, 0), scene.with("line", 1, 1, 0, 0),
            scene.with("signs", 1, 0, 0, 1), scene.with("strike", 0), scene.with("valley"), scene.with("add", 0, 1)};
    }

    private static void changedTwice() {
        Sentences.says(15, "How many WORLDS there are.");
        Scene two = Scene.told("note 0:1,0;note 1:2;whole 1 1;").with("sheet", 0, 0, 2).with("put", 0, 0, 9);
        Scene[] once = changed(two);
        Scene[] onceAsked = changed(asked(two));
        for (int i = 0; i < once.length; i++) {
            Scene[] twice = changed(once[i]);
            Scene[] twiceAsked = changed(onceAsked[i]);
            for (int k = 0; k < twice.length; k++) twiceAsked[k].same(twice[k]);
        }
    }

    /** A line narrows the bases of those evenings alone of which its notes are. */
    private static void linesOfEvenings() {
        Sentences.says(TERMS, "x, y and z are NOTES.");
        for (int e = 0; e < 3; e++) {
            Scene one = NEW.with("note", 0, e, 0, 2, 0x10).with("line", 3, 0, 0, 9);
            for (int f = 0; f < 3; f++) one.then(e == f ? 512 : ALL, "may", f);
            one.then(225, "worlds").then(NONE, "proof");
            for (int f = 0; f < 3; f++) {
                if (f == e) continue;
                Scene two = NEW.with("evening", f, 9, 10).with("note", 0, e, 0, 2, 0x10).with("note", 0, f, 0, 2, 0x10);
                two.with("line", 0, 0, 1, 0).then(512 + 1024, "may", e).then(512 + 1024, "may", f).then(ALL, "may", 3 - e - f);
                two.with("line", 1, 0, 1, 0).then(ALL & -1024, "may", e).then(7 * 15 + 6 * 15, "worlds");
                two.with("line", 1, 1, 0, 0).then(1024 - 4, "may", e).then(7 * 15 + 8 * 15, "worlds");
                two.with("line", 2, 0, 0, 1).then(32, "may", e).then(1024, "may", f).then(15, "worlds");
            }
        }
    }

    private static void changes(Scene scene, String name, long... args) {
        asked(scene).with(name, args).same(scene.with(name, args));
        asked(asked(scene).with(name, args)).same(scene.with(name, args));
    }
}
