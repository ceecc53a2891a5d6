import java.util.Random;

/** All promises: long runs of calls, drawn by a fixed seed, answered by the class and by PlainRooms. */
public final class RandomRunsTest {
    private static final int RUNS = 400, CALLS = 512;
    private static final int[] EDGES = {-1, 0, 1, 2, 3, 4, 5, 6, 7, 15, 16, 17, 40, 41, 9999, 10000,
        Integer.MAX_VALUE, Integer.MIN_VALUE};

    private final Random random;
    private final String[] names = Both.names();
    private Both both;

    private RandomRunsTest(long seed) {
        random = new Random(seed);
    }

    public static void main(String[] args) throws Exception {
        int runs = args.length > 0 ? Integer.parseInt(args[0]) : RUNS;
        long seed = args.length > 1 ? Long.parseLong(args[1]) : 20261118L;
        RandomRunsTest test = new RandomRunsTest(seed);
        for (int run = 0; run < runs; run++) test.run(run);
        Checks.finish();
    }

    private void run(int number) throws Exception {
        both = new Both();
        boolean tame = number % 4 != 0;
        int calls = 0;
        while (calls < CALLS) {
            int draw = random.nextInt(40);
            if (draw == 0) calls += tellText();
            else if (draw < 4 && tame) calls += likelyNote();
            else if (draw < 7 && tame) calls += likelyLine();
            else calls += any(tame);
        }
    }

    private int any(boolean tame) throws Exception {
        String name = names[random.nextInt(names.length)];
        boolean rare = name.equals("valley") || name.equals("alike") || name.equals("mended") || name.equals("proof");
        if (rare && random.nextInt(3) != 0) return 0;
        if (name.equals("feed") && random.nextInt(8) != 0) return 0;
        Class<?>[] types = Both.parameters(name);
        Object[] args = new Object[types.length];
        for (int i = 0; i < args.length; i++) {
            int v = tame && random.nextInt(12) != 0 ? likely(name, i) : edge();
            if (types[i] == long.class) args[i] = (long) v;
            else args[i] = v;
        }
        both.call(name, args);
        return 1;
    }

    private int edge() {
        return random.nextInt(10) == 0 ? random.nextInt() : EDGES[random.nextInt(EDGES.length)];
    }

    private int likely(String name, int i) {
        switch (name) {
            case "evening":
                return i == 0 ? random.nextInt(3) : i == 1 ? 2 + random.nextInt(5) : 8 + random.nextInt(9);
            case "note":
                return new int[] {random.nextInt(6), random.nextInt(3), random.nextInt(7), 1 + random.nextInt(6),
                    random.nextInt() >>> 1}[i];
            case "noteOf":
                return i == 0 ? random.nextInt(6) : random.nextBoolean() ? random.nextInt(4) : 10 + random.nextInt(6);
            case "worth": case "gain":
                return i == 0 ? random.nextInt(6) : 2 + random.nextInt(15);
            case "holds":
                return i == 0 ? random.nextInt(4) : 2 + random.nextInt(15);
            case "line":
                return i == 0 ? random.nextInt(4) : random.nextInt(6);
            case "alter":
                return i == 2 ? random.nextInt(4) : random.nextInt(4);
            case "world": case "prove":
                return i == 1 ? random.nextInt(3) : random.nextInt(1 + random.nextInt(3375));
            case "written":
                return new int[] {random.nextInt(10000), 2 + random.nextInt(15), random.nextInt(10) - 3}[i];
            case "alike":
                return i == 0 ? (1 << 2 + random.nextInt(15)) | (1 << 2 + random.nextInt(15)) : random.nextInt(20);
            case "shortest":
                return i == 0 ? random.nextInt(10000) : random.nextInt(131072) & -4;
            case "sheet":
                return new int[] {random.nextInt(4), random.nextInt(10) == 0 ? -1 : random.nextInt(3) / 2 * random.nextInt(4), random.nextInt(41)}[i];
            case "put":
                return new int[] {random.nextInt(4), random.nextInt(20), random.nextBoolean() ? random.nextInt(18) : random.nextInt()}[i];
            case "item":
                return new int[] {random.nextInt(4), random.nextInt(4), random.nextInt(20)}[i];
            case "signs":
                return new int[] {random.nextInt(6), random.nextInt(4), random.nextInt(12), random.nextInt(5)}[i];
            case "shelf":
                return new int[] {random.nextInt(4), random.nextInt(5) / 2, random.nextInt(6)}[i];
            case "taken":
                return i == 0 ? random.nextInt(4) : random.nextInt(3) == 0 ? 10 + random.nextInt(4) : random.nextInt(6);
            case "act":
                return i == 2 ? random.nextInt(100) - 50 : random.nextInt(4);
            case "seed":
                return random.nextInt();
            case "row": case "alterRow":
                return new int[] {random.nextInt(6), random.nextInt(3), random.nextInt(20)}[i];
            default:
                return random.nextInt(6);
        }
    }

    /** Few and small signs, so that worlds are many. */
    private int likelyNote() throws Exception {
        int n = 1 + random.nextInt(3);
        int signs = 0;
        for (int i = 0; i < n; i++) signs = signs * 16 + random.nextInt(random.nextInt(4) == 0 ? 10 : 4);
        int kind = random.nextInt(6);
        if (kind == 1 || kind == 5) signs = 0x111;
        both.call("note", kind, random.nextInt(3), random.nextInt(4), n, signs);
        return 1;
    }

    private int likelyLine() throws Exception {
        if (random.nextInt(3) == 0) both.call("strike", random.nextInt(3));
        int sort = random.nextInt(4);
        int notes = Math.max(1, (int) both.call("many", 0));
        both.call("line", sort, random.nextInt(notes), random.nextInt(notes), sort == 3 ? 1 + random.nextInt(6) : random.nextInt(notes));
        return 2;
    }

    private int tellText() throws Exception {
        String text = text();
        if (random.nextInt(3) != 0) text = spoiled(text);
        int calls = 1;
        if (text.length() > 200) text = text.substring(0, 200);
        for (int at = 0; at < text.length(); at += 8) {
            int n = Math.min(8, text.length() - at);
            long eight = (long) random.nextInt() << 32;
            if (n == 8) eight = 0;
            else eight = eight >>> (8 * n) << (8 * n);
            for (int i = 0; i < n; i++) eight |= (long) (text.charAt(at + i) & 255) << (8 * i);
            both.call("feed", eight, n);
            calls++;
        }
        both.call("valley");
        for (int what = 0; what < 5; what++) both.call("many", what);
        int notes = (int) both.call("many", 0);
        for (int i = 0; i < notes; i++) {
            for (int what : new int[] {0, 1, 2, 3, 10, 11, 12, 13, 14, 15}) both.call("noteOf", i, what);
        }
        return calls + 5;
    }

    private String text() {
        StringBuilder b = new StringBuilder();
        String[] kinds = {"note", "strokes", "broken", "left", "turned", "debt"};
        int notes = 0;
        int parts = 1 + random.nextInt(12);
        for (int p = 0; p < parts; p++) {
            int draw = random.nextInt(10);
            if (draw < 5 || notes == 0) {
                b.append(kinds[random.nextInt(6)]).append(blank()).append(random.nextInt(3)).append(blank());
                if (random.nextBoolean()) b.append("at").append(blank()).append(random.nextInt(7)).append(blank());
                b.append(':');
                int n = 1 + random.nextInt(random.nextInt(5) == 0 ? 7 : 3);
                for (int i = 0; i < n; i++) {
                    if (i > 0) b.append(blank()).append(',');
                    b.append(blank()).append(random.nextInt(random.nextInt(9) == 0 ? 17 : 4));
                }
                notes++;
            } else if (draw < 6) {
                b.append("evening ").append(random.nextInt(3)).append(" ").append(2 + random.nextInt(7)).append("  ").append(7 + random.nextInt(10));
            } else if (draw < 7) {
                b.append("whole").append(blank()).append(random.nextInt(notes)).append(" ").append(1 + random.nextInt(9));
            } else if (draw < 8) {
                b.append("sum ").append(random.nextInt(notes)).append(" ").append(random.nextInt(notes)).append(" ").append(random.nextInt(notes));
            } else {
                b.append(draw < 9 ? "same " : "more ").append(random.nextInt(notes)).append(" ").append(random.nextInt(notes));
            }
            b.append(blank()).append(';').append(blank());
        }
        return b.toString();
    }

    private String blank() {
        return random.nextInt(4) == 0 ? " " : "";
    }

    private String spoiled(String text) {
        StringBuilder b = new StringBuilder(text);
        String signs = " ;,:0123456789atnoe" + (char) 200 + (char) 9;
        int place = random.nextInt(b.length());
        switch (random.nextInt(4)) {
            case 0: b.deleteCharAt(place); break;
            case 1: b.insert(place, signs.charAt(random.nextInt(signs.length()))); break;
            case 2: b.setCharAt(place, signs.charAt(random.nextInt(signs.length()))); break;
            default: b.setLength(place); break;
        }
        return b.toString();
    }
}
