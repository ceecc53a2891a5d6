/** The edges of promises 24 to 29: just at them and just beyond, and that a refused call changes nothing. */
final class NumbersEdges {
    private static final int TERMS = Sentences.TERMS;
    private static final int BAD = Scene.BAD, FULL = Scene.FULL, NONE = Scene.NONE, STATE = Scene.STATE;
    private static final int LOW = Scene.LOW, HIGH = Scene.HIGH;
    private static final int ALL = 131068;
    private static final Scene NEW = Scene.fresh();
    private static final Scene LIVED = Scene.lived().withBytes();

    static void all() {
        written();
        writtenPlaces();
        writtenAtPowers();
        alike();
        alikeSets();
        shortest();
        shortestOfSeveral();
        add();
        addSigns();
        addFull();
        seed();
        guess();
        guessWraps();
    }

    private static void written() {
        Sentences.says(24, "How many SIGNS v has in a base (i -1), SIGN i of it (from 0, the greatest first). BAD; NONE: it has no such one.");
        Sentences.says(TERMS, "WRITTEN: a number (0 to 9999) to a base (2 to 16), without 0 ahead (0 is one SIGN 0).");
        long[] right = {9999, 10, -1};
        LIVED.shows(4, "written", 9999, 10, -1);
        LIVED.bounds(BAD, "written", right, 0, -1, 10000, LOW, HIGH);
        LIVED.bounds(BAD, "written", right, 1, 1, 17, 0, -1, -10, LOW, HIGH);
        LIVED.bounds(BAD, "written", right, 2, -2, -3, LOW);
        LIVED.bounds(BAD, "written", new long[] {0, 2, 0}, 2, -2, LOW);
        LIVED.refuses(BAD, "written", new long[] {-1, 10, 0}, new long[] {10000, 10, 5}, new long[] {10000, 10, 99}, new long[] {5, 1, 99},
                new long[] {5, 17, 0}, new long[] {5, 0, 0});
        for (int base = 2; base <= 16; base++) {
            LIVED.shows(1, "written", 0, base, -1);
            LIVED.shows(0, "written", 0, base, 0);
            LIVED.shows(NONE, "written", 0, base, 1);
        }
    }

    private static void writtenPlaces() {
        Sentences.says(TERMS, "WRITTEN: a number (0 to 9999) to a base (2 to 16)");
        String nines = Integer.toString(9999, 2);
        NEW.then(14, "written", 9999, 2, -1);
        for (int i = 0; i < 14; i++) NEW.then(nines.charAt(i) - '0', "written", 9999, 2, i);
        NEW.shows(NONE, "written", 9999, 2, 14);
        int[] hex = {2, 7, 0, 15};
        for (int i = 0; i < 4; i++) NEW.then(hex[i], "written", 9999, 16, i);
        NEW.shows(NONE, "written", 9999, 16, 4);
        NEW.shows(NONE, "written", 9999, 16, HIGH);
        NEW.shows(NONE, "written", 7, 8, 1);
        NEW.shows(0, "written", 8, 8, 1);
        NEW.shows(NONE, "written", 8, 8, 2);
    }

    private static void writtenAtPowers() {
        Sentences.says(TERMS, "without 0 ahead");
        for (int base = 2; base <= 16; base++) {
            int n = 1;
            for (int power = base; power <= 9999; power *= base) {
                NEW.then(n, "written", power - 1, base, -1);
                NEW.then(n + 1, "written", power, base, -1);
                NEW.then(base - 1, "written", power - 1, base, 0);
                NEW.then(base - 1, "written", power - 1, base, n - 1);
                NEW.then(NONE, "written", power - 1, base, n);
                NEW.then(1, "written", power, base, 0);
                NEW.then(0, "written", power, base, n);
                NEW.then(NONE, "written", power, base, n + 1);
                n++;
            }
        }
    }

    private static void alike() {
        Sentences.says(25, "ALIKE in a set of bases (bits 2 to 16, one at least), from (0 to 9999). BAD; NONE.");
        LIVED.shows(0, "alike", ALL, 0);
        LIVED.shows(9999, "alike", 4, 9999);
        LIVED.bounds(BAD, "alike", new long[] {4, 0}, 1, -1, 10000, LOW, HIGH);
        LIVED.bounds(BAD, "alike", new long[] {4, 0}, 0, 0, 1, 2, 3, 5, 6, 1 << 17, 4 | 1 << 17, 4 | 1 << 30, ALL | 1, ALL | 2, ALL | 1 << 17, -1, -4, LOW,
                LOW | 4, HIGH);
        LIVED.refuses(BAD, "alike", new long[] {0, -1}, new long[] {0, 10000}, new long[] {12, 10000}, new long[] {12, -1});
        for (int b = 2; b <= 16; b++) {
            NEW.then(0, "alike", 1 << b, 0);
            NEW.then(9999, "alike", 1 << b, 9999);
        }
    }

    private static void alikeSets() {
        Sentences.says(TERMS, "ALIKE in a set of bases: the least number from one on, to 9999, that is written by the same SIGNS in all of them.");
        for (int low = 2; low < 16; low++) {
            for (int high = low + 1; high <= 16; high++) {
                int set = 1 << low | 1 << high;
                NEW.then(low - 1, "alike", set, low - 1);
                NEW.then(NONE, "alike", set, low);
                NEW.then(0, "alike", set, 0);
            }
        }
        NEW.then(1, "alike", ALL, 1);
        LIVED.shows(NONE, "alike", ALL, 2);
        LIVED.shows(NONE, "alike", ALL, 9999);
        LIVED.shows(NONE, "alike", 3 << 15, 9999);
        LIVED.shows(14, "alike", 3 << 15, 14);
        LIVED.shows(NONE, "alike", 3 << 15, 15);
    }

    private static void shortest() {
        Sentences.says(26, "SHORT: the base. BAD.");
        LIVED.shows(2, "shortest", 0, ALL);
        LIVED.shows(10, "shortest", 9999, ALL);
        LIVED.bounds(BAD, "shortest", new long[] {5, 4}, 0, -1, 10000, LOW, HIGH);
        LIVED.bounds(BAD, "shortest", new long[] {5, 4}, 1, 0, 1, 2, 3, 5, 6, 1 << 17, 4 | 1 << 17, 4 | 1 << 30, ALL | 1, ALL | 2, ALL | 1 << 17, -1, -4, LOW,
                LOW | 4, HIGH);
        for (int b = 2; b <= 16; b++) {
            NEW.then(b, "shortest", 0, 1 << b);
            NEW.then(b, "shortest", 9999, 1 << b);
        }
    }

    private static void shortestOfSeveral() {
        Sentences.says(TERMS, "SHORT: the base of a set in which a number is written by fewest SIGNS, of several the least.");
        for (int low = 2; low < 16; low++) {
            int set = 1 << low | 1 << low + 1;
            NEW.then(low, "shortest", low - 1, set);
            NEW.then(low + 1, "shortest", low, set);
            NEW.then(low, "shortest", low + 1, set);
            NEW.then(low, "shortest", low * low - 1, set);
            NEW.then(low + 1, "shortest", low * low, set);
            if (low >= 4) NEW.then(low + 1, "shortest", low * low, ALL & -(1 << low));
        }
        NEW.then(16, "shortest", 4095, 1 << 15 | 1 << 16);
        NEW.then(15, "shortest", 4096, 1 << 15 | 1 << 16);
    }

    private static void add() {
        Sentences.says(27, "ADDED: the number of the new NOTE. BAD: no such NOTES; STATE: one isn't of KIND note, a SIGN would be above 15; FULL.");
        Scene notes = Scene.told("note 2 at 3:1,2,3;note 1:9,12;strokes 0:1;broken 0:1;").with("keep").withBytes();
        notes.then(4, "add", 0, 1).then(5, "add", 0, 0).shows(FULL, "add", 0, 0);
        notes.bounds(BAD, "add", new long[] {0, 1}, 0, -1, 4, 6, LOW, HIGH);
        notes.bounds(BAD, "add", new long[] {0, 1}, 1, -1, 4, 6, LOW, HIGH);
        notes.bounds(BAD, "add", new long[] {2, 1}, 1, -1, 4);
        notes.bounds(BAD, "add", new long[] {0, 2}, 0, -1, 4);
        NEW.shows(BAD, "add", 0, 0);
        for (int kind = 1; kind <= 5; kind++) {
            Scene two = NEW.with("note", 0, 0, 0, 1, 1).with("note", kind, 0, 0, 1, 1).withBytes();
            two.refuses(STATE, "add", new long[] {0, 1}, new long[] {1, 0}, new long[] {1, 1});
            two.then(2, "add", 0, 0);
        }
    }

    private static void addSigns() {
        Sentences.says(TERMS, "ADDED: a new NOTE of KIND note, of the EVENING of the first one: SIGNS of two NOTES of KIND note place by place"
                + " (the last ones under one another), so long as none is above 15.");
        for (int x = 0; x <= 15; x++) {
            for (int place = 0; place < 3; place++) {
                Scene two = NEW.with("note", 0, 1, 2, 3, x << 4 * (2 - place)).with("note", 0, 2, 1, 3, 15 - x << 4 * (2 - place));
                two.then(2, "add", 0, 1).then(15, "noteOf", 2, 10 + place);
                if (x == 0) continue;
                two.with("alter", 1, place, 16 - x).shows(STATE, "add", 0, 1);
                two.with("alter", 1, place, 16 - x).shows(STATE, "add", 1, 0);
            }
        }
        Scene unlike = Scene.told("note 1 at 6:1,2,3,4,5,6;note 2:9;");
        for (int way = 0; way < 2; way++) {
            Scene added = unlike.then(2, "add", way, 1 - way);
            int[] due = {1, 2, 3, 4, 5, 15};
            for (int i = 0; i < 6; i++) added = added.then(due[i], "noteOf", 2, 10 + i);
            added.then(6, "noteOf", 2, 3).then(0, "noteOf", 2, 0).then(1 + way, "noteOf", 2, 1).then(0, "noteOf", 2, 2);
        }
        unlike.with("alter", 1, 0, 10).shows(STATE, "add", 0, 1);
        unlike.with("alter", 0, 0, 15).then(2, "add", 0, 1).then(15, "noteOf", 2, 10);
        Scene.told("note 0:7;").then(1, "add", 0, 0).then(14, "noteOf", 1, 10);
        Scene.told("note 0:8;").shows(STATE, "add", 0, 0);
    }

    private static void addFull() {
        Sentences.says(27, "FULL.");
        Scene five = Scene.told("note 0:1;note 0:15;debt 0:1;note 0:1;note 0:1;").withBytes();
        five.then(5, "add", 0, 3).then(6, "many", 0);
        Scene six = five.with("note", 0, 0, 0, 1, 1);
        six.refuses(FULL, "add", new long[] {0, 3}, new long[] {3, 0}, new long[] {0, 0}, new long[] {5, 5});
        six.refuses(STATE, "add", new long[] {0, 2}, new long[] {2, 0}, new long[] {0, 1}, new long[] {1, 1});
        six.refuses(BAD, "add", new long[] {0, 6}, new long[] {6, 0}, new long[] {-1, 0}, new long[] {2, 6});
    }

    private static void seed() {
        Sentences.says(28, "z becomes v: what it was.");
        NEW.then(1, "seed", HIGH).then(HIGH, "seed", LOW).then(LOW, "seed", 0).then(0, "seed", -1).then(-1, "seed", 1).same(NEW);
        LIVED.then(-5, "seed", -5).same(LIVED);
    }

    private static int next(int z) {
        return z * 1103515245 + 12345;
    }

    private static void guess() {
        Sentences.says(29, "GUESSED: the place of the WORLD. NONE: there is none.");
        Scene none = Scene.told("strokes 0:0;").with("seed", 9).with("keep").withBytes();
        none.shows(NONE, "guess");
        none.with("guess").then(9, "seed", 0);
        Scene one = NEW.with("evening", 0, 2, 2).with("evening", 1, 2, 2).with("evening", 2, 2, 2);
        one.then(0, "guess").then(next(1), "seed", 0);
        NEW.then((next(1) >>> 16) % 3375, "guess").then((next(next(1)) >>> 16) % 3375, "guess").then(next(next(1)), "seed", 0);
    }

    private static void guessWraps() {
        Sentences.says(TERMS, "GUESSED: z (an int; 1 at first) becomes z * 1103515245 + 12345: of all WORLDS that at place (z >>> 16) modulo how many there are.");
        for (int z : new int[] {0, 1, 2, -1, 5, 77, LOW, HIGH, 1 << 16, 12345}) {
            Scene seeded = NEW.with("seed", z);
            seeded.then((next(z) >>> 16) % 3375, "guess").then(next(z), "seed", 0);
            seeded.with("evening", 0, 2, 2).with("evening", 1, 2, 2).with("evening", 2, 3, 4).then((next(z) >>> 16) % 2, "guess");
            seeded.with("evening", 0, 2, 2).with("evening", 1, 2, 2).with("evening", 2, 3, 16).then((next(z) >>> 16) % 14, "guess");
        }
    }
}
