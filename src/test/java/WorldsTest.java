import java.util.Random;

/**
 * Promises 15 to 22, 29, 30 and 33 in valleys that are almost true: notes and lines that hold in one hidden
 * world, some of them spoiled behind that, all looked at by the class and by PlainRooms.
 */
public final class WorldsTest {
    private static final int VALLEYS = 500;

    private final Random random;
    private Both both;
    private final int[] hidden = new int[3];

    private WorldsTest(long seed) {
        random = new Random(seed);
    }

    public static void main(String[] args) throws Exception {
        int valleys = args.length > 0 ? Integer.parseInt(args[0]) : VALLEYS;
        WorldsTest test = new WorldsTest(args.length > 1 ? Long.parseLong(args[1]) : 44L);
        for (int i = 0; i < valleys; i++) test.valley();
        Checks.finish();
    }

    private void valley() throws Exception {
        both = new Both();
        for (int e = 0; e < 3; e++) {
            hidden[e] = 2 + random.nextInt(15);
            if (random.nextInt(3) == 0) {
                both.call("evening", e, 2 + random.nextInt(hidden[e] - 1), hidden[e] + random.nextInt(17 - hidden[e]));
            }
        }
        int notes = 1 + random.nextInt(6);
        for (int i = 0; i < notes; i++) note();
        int tries = random.nextInt(60);
        for (int i = 0; i < tries && both.call("many", 1) < 6; i++) line(notes);
        look(notes);
        int spoils = 1 + random.nextInt(2);
        for (int i = 0; i < spoils; i++) {
            both.call("alter", random.nextInt(notes), 0, random.nextInt(random.nextBoolean() ? 4 : 16));
            look(notes);
        }
        if (random.nextInt(3) == 0) {
            both.call("move", random.nextInt(notes), random.nextInt(3));
            look(notes);
        }
    }

    private void note() throws Exception {
        int kind = random.nextInt(3) == 0 ? random.nextInt(6) : 0;
        int evening = random.nextInt(3);
        int n = 1 + random.nextInt(random.nextInt(3) == 0 ? 6 : 2);
        int signs = 0;
        for (int i = 0; i < n; i++) {
            int below = Math.max(1, kind == 3 ? hidden[evening] - 1 : hidden[evening]);
            signs = signs * 16 + (kind == 1 || kind == 5 ? 1 : random.nextInt(Math.min(below, random.nextInt(4) == 0 ? 16 : 3)));
        }
        both.call("note", kind, evening, random.nextInt(4), n, signs);
    }

    /** A line stays if it holds in the hidden world. */
    private void line(int notes) throws Exception {
        int sort = random.nextInt(4);
        int z = sort == 3 ? 1 + random.nextInt(random.nextBoolean() ? 9 : 99) : random.nextInt(notes);
        int line = (int) both.call("line", sort, random.nextInt(notes), random.nextInt(notes), z);
        if (both.call("holds", line, hidden[0], hidden[1], hidden[2]) == 0) both.call("strike", line);
    }

    private void look(int notes) throws Exception {
        int worlds = (int) both.call("worlds");
        for (int e = 0; e < 3; e++) {
            both.call("may", e);
            both.call("sure", e);
            both.call("world", 0, e);
            both.call("world", worlds / 2, e);
            both.call("world", worlds - 1, e);
            both.call("world", worlds, e);
        }
        for (int i = 0; i < notes; i++) both.call("which", i);
        both.call("worlds");
        both.call("proof");
        for (int what = 0; what < 3; what++) both.call("mended", what);
        both.call("guess");
        both.call("prove", worlds / 3);
        both.call("judge");
        both.call("alterRow", random.nextInt(notes), 1, (long) (2 + random.nextInt(15)));
        both.call("judge");
    }
}
