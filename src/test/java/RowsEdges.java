/** The edges of promises 30 to 34: just at them and just beyond, and that a refused call changes nothing. */
final class RowsEdges {
    private static final int TERMS = Sentences.TERMS;
    private static final int BAD = Scene.BAD, NONE = Scene.NONE, LOW = Scene.LOW, HIGH = Scene.HIGH;
    private static final long NO = Scene.NO;
    private static final int NOTHING = -11, OUTSIDE = -12, OTHER = -13;
    private static final Scene NEW = Scene.fresh();
    private static final Scene LIVED = Scene.lived().withBytes();
    /** Three notes of two evenings, proved by the bases 5, 9 and 2, and two lines. */
    private static final Scene PROVED = Scene.told("evening 0 5 8;evening 1 9 12;note 0:1,2;note 1:8;note 0:4;more 1 0;same 2 2;")
            .with("keep").with("prove", 0).withBytes();

    static void all() {
        prove();
        proveAgain();
        row();
        alterRow();
        judgeRight();
        judgeBases();
        judgeBasesAhead();
        judgeFewerAndMore();
        judgeLines();
        signs();
        signsPlaces();
        signsHeld();
        signsFirstNamed();
    }

    private static void prove() {
        Sentences.says(30, "ROWS of the k-th WORLD: how many. NONE: there is no such one.");
        NEW.then(0, "prove", 0).then(0, "many", 2);
        NEW.then(0, "prove", 3374);
        NEW.bounds(NONE, "prove", new long[] {0}, 0, 3375, -1, LOW, HIGH);
        long worlds = LIVED.with("worlds").answer();
        LIVED.then(3, "prove", worlds - 1).then(16, "row", 2, 1);
        LIVED.bounds(NONE, "prove", new long[] {0}, 0, worlds, worlds + 1, -1, LOW, HIGH);
        Scene none = PROVED.with("line", 1, 0, 0, 0).withBytes();
        none.bounds(NONE, "prove", new long[] {0}, 0, 0, 1, -1);
        none.shows(3, "many", 2);
        Scene six = NEW;
        for (int i = 0; i < 6; i++) six = six.with("note", 0, i % 3, 0, 1, 1);
        six.then(6, "prove", 0).then(6, "many", 2).then(5, "row", 5, 0);
    }

    private static void proveAgain() {
        Sentences.says(TERMS, "ROWS of a WORLD (by its place): (NOTE, BASE, WORTH by it) of each NOTE.");
        long[][] first = {{0, 5, 7}, {1, 9, 8}, {2, 5, 4}};
        for (int i = 0; i < 3; i++) {
            for (int what = 0; what < 3; what++) PROVED.shows(first[i][what], "row", i, what);
        }
        Scene fewer = PROVED.with("valley").with("valley").with("note", 5, 2, 0, 3, 0x111).then(1, "prove", 0);
        fewer.then(1, "many", 2).then(0, "row", 0, 0).then(2, "row", 0, 1).then(-3, "row", 0, 2).then(NO, "row", 1, 0);
        fewer.then(1, "prove", 3374).then(16, "row", 0, 1);
        PROVED.with("alterRow", 1, 2, 99).then(3, "prove", 0).same(PROVED);
    }

    private static void row() {
        Sentences.says(31, "Of ROW i: what = 0 NOTE, 1 BASE, 2 WORTH (may be below 0). NO: there is none such, another what.");
        PROVED.bounds(NO, "row", new long[] {0, 0}, 0, -1, 3, 6, LOW, HIGH);
        PROVED.bounds(NO, "row", new long[] {2, 0}, 1, -1, 3, LOW, HIGH);
        NEW.shows(NO, "row", 0, 0);
        NEW.with("note", 0, 0, 0, 1, 1).shows(NO, "row", 0, 0);
        Scene debt = NEW.with("note", 5, 0, 0, 6, 0x111111).with("prove", 0);
        debt.shows(-6, "row", 0, 2);
        debt.shows(NO, "row", 1, 0);
        Scene six = NEW;
        for (int i = 0; i < 6; i++) six = six.with("note", 0, 0, 0, 1, 1);
        six.with("prove", 0).shows(1, "row", 5, 2);
        six.with("prove", 0).shows(NO, "row", 6, 0);
    }

    private static void alterRow() {
        Sentences.says(32, "It becomes v: what it was. NO likewise.");
        long[][] was = {{0, 5, 7}, {1, 9, 8}, {2, 5, 4}};
        long[] values = {0, -1, Long.MIN_VALUE, Long.MAX_VALUE, NO, 1L << 32};
        for (int i = 0; i < 3; i++) {
            for (int what = 0; what < 3; what++) {
                for (long v : values) {
                    Scene altered = PROVED.then(was[i][what], "alterRow", i, what, v);
                    altered.then(v, "row", i, what).then(v, "alterRow", i, what, was[i][what]).same(PROVED);
                }
            }
        }
        PROVED.bounds(NO, "alterRow", new long[] {0, 0, 77}, 0, -1, 3, 6, LOW, HIGH);
        PROVED.bounds(NO, "alterRow", new long[] {2, 0, 77}, 1, -1, 3, LOW, HIGH);
        NEW.shows(NO, "alterRow", 0, 0, 5);
        PROVED.with("valley").shows(NO, "alterRow", 0, 0, 5);
    }

    private static void judgeRight() {
        Sentences.says(33, "THE READER takes ROWS: 0 all is right; else the first ROW that isn't, and 1 more; 222; 300 and a LINE.");
        NEW.shows(0, "judge");
        PROVED.shows(0, "judge");
        long[][] is = {{0, 5, 7}, {1, 9, 8}, {2, 5, 4}};
        for (int i = 0; i < 3; i++) {
            for (int what = 0; what < 3; what++) {
                for (long off : new long[] {-1, 1, 1L << 32, -(1L << 32), Long.MIN_VALUE}) {
                    // Base 10 is as good as 9 to the lone sign of note 1.
                    if (i == 1 && what == 1 && off == 1) continue;
                    Scene wrong = PROVED.with("alterRow", i, what, is[i][what] + off);
                    wrong.shows(i + 1, "judge");
                    for (int later = i + 1; later < 3; later++) wrong.with("alterRow", later, 2, -9).shows(i + 1, "judge");
                }
            }
        }
    }

    private static void judgeBases() {
        Sentences.says(TERMS, "THE READER takes ROWS: right is one that tells the next NOTE, a BASE of its EVENING"
                + " (as of those of that EVENING that stand ahead of it) in which it CAN BE, its WORTH;");
        for (int base = 8; base <= 13; base++) {
            int due = base < 9 || base > 12 ? 2 : 0;
            PROVED.with("alterRow", 1, 1, base).shows(due, "judge");
        }
        Scene wide = PROVED.with("evening", 1, 2, 16);
        for (int base = 1; base <= 17; base++) {
            int due = base < 9 || base > 16 ? 2 : 0;
            wide.with("alterRow", 1, 1, base).shows(due, "judge");
        }
    }

    private static void judgeBasesAhead() {
        Sentences.says(TERMS, "(as of those of that EVENING that stand ahead of it)");
        Scene ahead = PROVED.with("alterRow", 0, 1, 6).with("alterRow", 0, 2, 8);
        ahead.shows(3, "judge");
        ahead.with("alterRow", 2, 1, 6).shows(300, "judge");
        ahead.with("alterRow", 2, 1, 6).with("strike", 0).shows(0, "judge");
        PROVED.with("alterRow", 2, 1, 6).shows(3, "judge");
        // Neither bases that a line was looked at with nor those of an earlier reading count.
        PROVED.with("holds", 0, 16, 16, 16).shows(0, "judge");
        PROVED.with("judge").with("prove", 59).then(12, "row", 1, 1).then(0, "judge");
        Scene moved = PROVED.with("move", 2, 2);
        moved.shows(0, "judge");
        moved.with("alterRow", 2, 1, 16).shows(0, "judge");
        moved.with("alterRow", 2, 1, 4).shows(3, "judge");
    }

    private static void judgeFewerAndMore() {
        Sentences.says(TERMS, "if all are, but there are fewer than NOTES: 222; if there are more, the first one beyond is wrong;");
        NEW.with("note", 0, 0, 0, 1, 1).shows(222, "judge");
        PROVED.with("note", 0, 0, 0, 1, 1).shows(222, "judge");
        PROVED.with("note", 0, 0, 0, 1, 1).with("line", 1, 0, 0, 0).shows(222, "judge");
        PROVED.with("note", 0, 0, 0, 1, 1).with("alterRow", 2, 2, 5).shows(3, "judge");
        Scene two = NEW.with("note", 0, 0, 0, 1, 1).with("note", 0, 0, 0, 1, 1);
        Scene more = two.with("keep").with("note", 0, 0, 0, 1, 1).with("note", 0, 0, 0, 1, 1).with("prove", 0).with("again");
        more.shows(3, "judge");
        more.with("alterRow", 3, 2, 9).shows(3, "judge");
        more.with("alterRow", 1, 2, 9).shows(2, "judge");
        more.with("note", 0, 0, 0, 1, 1).shows(4, "judge");
        more.with("note", 0, 0, 0, 1, 1).with("note", 0, 0, 0, 1, 1).shows(0, "judge");
        Scene six = NEW.with("keep");
        for (int i = 0; i < 6; i++) six = six.with("note", 0, 0, 0, 1, 1);
        six.with("prove", 0).with("again").shows(1, "judge");
        six.with("prove", 0).with("alterRow", 5, 2, 2).shows(6, "judge");
    }

    private static void judgeLines() {
        Sentences.says(TERMS, "if a LINE doesn't hold by these, 300 and the first such.");
        Scene lines = NEW.with("note", 0, 0, 0, 1, 1).with("prove", 0);
        for (int n = 0; n < 6; n++) {
            lines.with("line", 1, 0, 0, 0).shows(300 + n, "judge");
            if (n < 5) lines.with("line", 1, 0, 0, 0).with("line", 1, 0, 0, 0).shows(300 + n, "judge");
            lines = lines.with("line", 0, 0, 0, 0);
        }
        lines.shows(0, "judge");
        lines.with("alterRow", 0, 2, 2).shows(1, "judge");
        PROVED.with("line", 2, 0, 1, 2).shows(302, "judge");
        PROVED.with("line", 3, 0, 0, 7).shows(0, "judge");
        PROVED.with("line", 3, 0, 0, 6).shows(302, "judge");
    }

    /** A note of three signs, one of six, and sheets of seven bytes, shorts and ints; the last one is missing. */
    private static Scene sheets() {
        return Scene.told("note 0:1,2,3;note 1:1,2,3,4,5,6;").with("keep").with("sheet", 0, 0, 7)
                .with("put", 0, 0, 9).with("put", 0, 1, 8).with("put", 0, 2, 7).with("put", 0, 3, 6).with("put", 0, 4, 5).with("put", 0, 5, 4)
                .with("sheet", 1, 1, 7).with("sheet", 2, 2, 7).withBytes();
    }

    private static void signs() {
        Sentences.says(34, "n (0 to 6) numbers of a SHEET taken for bytes, from i on, become SIGNS of a NOTE from the first on");
        Sentences.says(34, ": n. BAD: no such NOTE, SHEET, n, or it has fewer SIGNS; -11; -13; -12.");
        Scene s = sheets();
        s.shows(0, "signs", 0, 0, 0, 0);
        for (int n = 0; n <= 3; n++) {
            Scene set = s.then(n, "signs", 0, 0, 1, n);
            for (int i = 0; i < 3; i++) set = set.then(i < n ? 8 - i : i + 1, "noteOf", 0, 10 + i);
        }
        s.then(6, "signs", 1, 0, 0, 6).then(9, "noteOf", 1, 10).then(4, "noteOf", 1, 15);
        s.bounds(BAD, "signs", new long[] {0, 0, 0, 1}, 0, -1, 2, 6, LOW, HIGH);
        s.bounds(BAD, "signs", new long[] {0, 0, 0, 1}, 1, -1, 4, LOW, HIGH);
        s.bounds(BAD, "signs", new long[] {0, 0, 0, 1}, 3, -1, 4, 6, 7, LOW, HIGH);
        s.bounds(BAD, "signs", new long[] {1, 0, 0, 1}, 3, -1, 7, 8, LOW, HIGH);
        NEW.with("sheet", 0, 0, 5).shows(BAD, "signs", 0, 0, 0, 0);
        s.shows(NOTHING, "signs", 0, 3, 0, 1);
        s.shows(NOTHING, "signs", 0, 3, 0, 0);
        for (int sort = 1; sort <= 3; sort++) {
            s.with("sheet", 0, sort, 7).shows(OTHER, "signs", 0, 0, 0, 1);
            s.with("sheet", 0, sort, 7).shows(OTHER, "signs", 0, 0, 0, 0);
        }
        s.with("may", 0).with("signs", 0, 0, 0, 3).then(131072 - 1024, "can", 0).then(131072 - 1024, "may", 0);
    }

    private static void signsPlaces() {
        Sentences.says(TERMS, "-12 a place outside");
        Scene s = sheets();
        for (int n = 0; n <= 6; n++) {
            s.then(n, "signs", 1, 0, 7 - n, n);
            s.shows(OUTSIDE, "signs", 1, 0, 8 - n, n);
            s.shows(OUTSIDE, "signs", 1, 0, -1, n);
            s.shows(OUTSIDE, "signs", 1, 0, HIGH, n);
            s.shows(OUTSIDE, "signs", 1, 0, HIGH - 1, n);
            s.shows(OUTSIDE, "signs", 1, 0, LOW, n);
        }
        Scene empty = s.with("sheet", 0, 0, 0);
        empty.shows(0, "signs", 1, 0, 0, 0);
        empty.shows(OUTSIDE, "signs", 1, 0, 0, 1);
        empty.shows(OUTSIDE, "signs", 1, 0, 1, 0);
        Scene forty = s.with("sheet", 0, 0, 40).with("put", 0, 39, 3);
        forty.then(1, "signs", 1, 0, 39, 1).then(3, "noteOf", 1, 10);
        forty.shows(OUTSIDE, "signs", 1, 0, 40, 1);
        forty.shows(0, "signs", 1, 0, 40, 0);
        forty.shows(OUTSIDE, "signs", 1, 0, 41, 0);
    }

    private static void signsHeld() {
        Sentences.says(34, "(held to 0 to 15)");
        int[][] held = {{-128, 0}, {-1, 0}, {0, 0}, {1, 1}, {14, 14}, {15, 15}, {16, 15}, {127, 15}, {128, 0}, {255, 0}, {256, 0}, {271, 15}};
        for (int[] h : held) {
            Scene set = sheets().with("put", 0, 6, h[0]).then(1, "signs", 0, 0, 6, 1);
            set.then(h[1], "noteOf", 0, 10).then(2, "noteOf", 0, 11);
        }
    }

    private static void signsFirstNamed() {
        Sentences.says(34, "BAD: no such NOTE, SHEET, n, or it has fewer SIGNS; -11; -13; -12.");
        Scene s = sheets();
        s.refuses(BAD, "signs", new long[] {2, 3, -1, 1}, new long[] {0, 3, -1, 4}, new long[] {0, 4, -1, 1}, new long[] {0, 2, -1, 4}, new long[] {0, 0, -1, 7});
        s.refuses(NOTHING, "signs", new long[] {0, 3, -1, 1}, new long[] {0, 3, HIGH, 3});
        s.refuses(OTHER, "signs", new long[] {0, 2, -1, 1}, new long[] {0, 1, 7, 1}, new long[] {0, 2, HIGH, 3});
    }
}
