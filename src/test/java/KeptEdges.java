/** The edges of promises 43 and 44, and what the Terms say of all calls. */
final class KeptEdges {
    private static final int TERMS = Sentences.TERMS;
    private static final int NONE = Scene.NONE;
    private static final Scene NEW = Scene.fresh();
    private static final Scene LIVED = Scene.lived().withBytes();

    static void all() {
        keep();
        keepNothing();
        again();
        againOften();
        latest();
        notKept();
        answersBelowNothing();
    }

    private static void keep() {
        Sentences.says(43, "EVENINGS, NOTES, LINES and z are kept: 1.");
        Scene valley = Scene.told("evening 0 3 7;evening 2 4 4;note 0:1,2;left 1 at 1:2,1;more 0 1;whole 1 3;").with("seed", 42);
        Scene kept = valley.then(1, "keep");
        kept.then(2, "again").same(kept);
        kept.with("evening", 0, 2, 16).then(2, "again").same(kept);
        kept.with("evening", 1, 9, 9).then(2, "again").same(kept);
        kept.with("alter", 0, 1, 15).then(2, "again").same(kept);
        kept.with("move", 1, 2).then(2, "again").same(kept);
        kept.with("note", 0, 0, 0, 1, 1).then(2, "again").same(kept);
        kept.with("line", 0, 0, 0, 0).then(2, "again").same(kept);
        kept.with("strike", 0).then(2, "again").same(kept);
        kept.with("strike", 1).with("strike", 0).then(2, "again").same(kept);
        kept.with("seed", 1).then(2, "again").same(kept);
        kept.with("guess").then(2, "again").same(kept);
        kept.with("valley").then(2, "again").same(kept);
        kept.fed("debt 0:1;").with("valley").then(2, "again").same(kept);
        kept.with("sheet", 0, 0, 2).with("signs", 0, 0, 0, 2).then(2, "again").with("sheet", 0, -1, 0).same(kept);
    }

    private static void keepNothing() {
        Sentences.says(43, "are kept: 1.");
        NEW.then(1, "keep").then(0, "again").then(0, "many", 0);
        NEW.then(1, "keep").with("note", 0, 0, 0, 1, 1).with("line", 0, 0, 0, 0).then(0, "again").same(NEW.with("keep"));
        Scene full = NEW;
        for (int i = 0; i < 6; i++) full = full.with("note", i, 0, 0, 6, 0x111111);
        for (int i = 0; i < 6; i++) full = full.with("line", 3, i, 0, 99);
        full.then(1, "keep").with("valley").then(6, "again").same(full.with("keep"));
    }

    private static void again() {
        Sentences.says(44, "They become what was kept latest (which stays): how many NOTES. NONE: nothing is kept.");
        NEW.shows(NONE, "again");
        Scene told = Scene.told("evening 0 3 7;note 0:1,2;").with("seed", 9).with("prove", 0).withBytes();
        told.shows(NONE, "again");
        told.with("valley").shows(NONE, "again");
        for (int n = 0; n <= 6; n++) {
            Scene notes = NEW;
            for (int i = 0; i < n; i++) notes = notes.with("note", 0, 0, 0, 1, 1);
            notes.with("keep").with("valley").then(n, "again").then(n, "many", 0);
        }
    }

    private static void againOften() {
        Sentences.says(44, "(which stays)");
        Scene kept = LIVED.with("keep");
        Scene often = kept;
        for (int i = 0; i < 3; i++) {
            often = often.with("alter", 0, 0, 9).with("seed", 3).with("strike", 0).with("evening", 0, 2, 2).then(3, "again");
            often.same(kept);
        }
        // What came from the kept valley is not it.
        kept.with("again").with("alter", 2, 2, 0).with("move", 2, 0).then(3, "again").same(kept);
        kept.with("alter", 2, 2, 0).then(3, "again").then(6, "noteOf", 2, 12);
    }

    private static void latest() {
        Sentences.says(44, "what was kept latest");
        Scene twice = NEW.with("note", 0, 0, 0, 1, 1).with("seed", 5).with("keep").with("note", 0, 0, 0, 1, 2).with("seed", 6).with("keep");
        twice.with("valley").then(2, "again").then(6, "seed", 0);
        Scene fewer = twice.with("valley").with("keep");
        fewer.with("note", 0, 0, 0, 1, 1).then(0, "again").then(6, "seed", 0);
    }

    private static void notKept() {
        Sentences.says(43, "EVENINGS, NOTES, LINES and z are kept");
        Scene kept = LIVED.with("keep");
        Scene later = kept.with("prove", 5).with("alterRow", 0, 2, 99).with("sheet", 3, 3, 2)
                .with("put", 3, 1, 8).with("shelf", 3, 1, 3).with("act", 0, 0, 5).with("feed", 32, 1);
        later.then(3, "again").same(later);
        later.then(3, "again").then(99, "row", 0, 2).then(8, "item", 3, 3, 1).then(2, "taken", 3, 13).then(1, "many", 4).then(10, "many", 3);
    }

    private static void answersBelowNothing() {
        Sentences.says(TERMS, "Answers below 0, where not told otherwise, are refusals; such a call changes nothing");
        Scene six = NEW;
        for (int i = 0; i < 6; i++) six = six.with("note", 0, i % 3, 0, 1, 1);
        for (int i = 0; i < 6; i++) six = six.with("line", 0, i, i, 0);
        Scene full = six.with("keep").with("prove", 0).with("seed", 3).fed(" ".repeat(200));
        full.shows(-2, "feed", 32, 1);
        full.shows(-2, "note", 0, 0, 0, 1, 1);
        full.shows(-2, "line", 0, 0, 0, 0);
        full.shows(-2, "add", 0, 0);
        full.shows(-4, "mended", 0);
        full.shows(-3, "proof");
        Sentences.says(TERMS, "of several the first named: BAD (-1) there is no such thing, or a number is not as told; FULL (-2); NONE (-3); STATE (-4);"
                + " and what the host refuses: -11 nothing where something is asked, -12 a place outside, -13 a thing of another sort or kind,"
                + " -14 a size below 0, -15 parted by 0.");
        full.shows(-1, "note", 6, 0, 0, 1, 1);
        full.shows(-1, "note", 0, 0, 0, 7, 1);
        full.shows(-1, "line", 0, 6, 0, 0);
        full.shows(-1, "feed", 32, 9);
        full.shows(-1, "world", 3375, 3);
        full.shows(-1, "mended", 3);
        full.shows(-11, "put", 0, 40, 1);
        full.with("sheet", 0, 0, 40).shows(-12, "put", 0, 40, 1);
        full.with("sheet", 0, 0, 40).shows(-13, "item", 0, 1, 40);
        full.shows(-14, "sheet", 0, 0, -1);
        full.with("shelf", 0, 0, 0).then(-15, "act", 0, 2, 1);
        // No call tells a part of a fraction.
        Sentences.says(TERMS, "A part of a fraction: 0 above the line, 1 below it, without a common divisor, below above 0 (0 is 0 by 1).");
        Sentences.says(TERMS, "Where a number told may itself be below 0, NO (-1000000000000) stands for all refusals.");
        full.shows(-1000000000000L, "worth", 6, 2);
        full.shows(-1000000000000L, "gain", 6, 2, 2);
        full.shows(-1000000000000L, "row", 6, 0);
        full.shows(-1000000000000L, "alterRow", 6, 0, 1);
        Checks.due("NO", RoomNumbers.NO, -1000000000000L);
        Checks.due("BAD", RoomNumbers.BAD, -1);
        Checks.due("FULL", RoomNumbers.FULL, -2);
        Checks.due("NONE", RoomNumbers.NONE, -3);
        Checks.due("STATE", RoomNumbers.STATE, -4);
    }
}
