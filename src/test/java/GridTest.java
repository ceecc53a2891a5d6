import java.util.Map;

/**
 * All promises: each call with every mixture of arguments that lie at an edge, just beyond one or as far off as can be,
 * in several states, answered by the class and by PlainRooms.
 */
public final class GridTest {
    private static final int LOW = Integer.MIN_VALUE, HIGH = Integer.MAX_VALUE;
    /** How many calls may come to one object in all, those that make its state and look at it behind them included. */
    private static final int CALLS = 380;
    private static final int[] FEW = {LOW, -1, 0, 1, 2, 3, 6, 7, HIGH};
    private static final int[] SOME = {LOW, -2, -1, 0, 1, 2, 3, 4, 5, 6, 7, 9, 10, 15, 16, 17, 40, 41, HIGH};
    private static final int[] MANY = {LOW, LOW + 1, -101, -16, -5, -2, -1, 0, 1, 2, 3, 4, 5, 6, 7, 8, 9, 10, 11, 12, 13, 14, 15, 16, 17,
        39, 40, 41, 99, 100, 199, 200, 224, 225, 3374, 3375, 9999, 10000, 131068, 131072, HIGH - 1, HIGH};
    /** Where a call has a range that the rows above miss. */
    private static final Map<String, int[][]> OWN = Map.of(
            "written", new int[][] {{LOW, -1, 0, 1, 15, 16, 255, 256, 4095, 4096, 9999, 10000, HIGH},
                {LOW, 1, 2, 3, 15, 16, 17, HIGH}, {LOW, -2, -1, 0, 1, 3, 4, 13, 14, HIGH}},
            "alike", new int[][] {{LOW, -1, 0, 1, 2, 3, 4, 8, 12, 1 << 16, 3 << 15, 131068, 131072, HIGH}, {LOW, -1, 0, 1, 2, 3, 14, 15, 16, 9999, 10000, HIGH}},
            "shortest", new int[][] {MANY, {LOW, -1, 0, 1, 2, 3, 4, 8, 12, 1 << 16, 3 << 15, 131068, 131072, HIGH}},
            "holds", new int[][] {{-1, 0, 1, 5, 6, HIGH}, {LOW, 1, 2, 7, 16, 17, HIGH}, {LOW, 1, 2, 16, 17, HIGH}, {1, 2, 5, 16, 17, HIGH}},
            "line", new int[][] {{LOW, -1, 0, 1, 2, 3, 4, HIGH}, FEW, FEW, {LOW, -1, 0, 1, 2, 6, 99, 100, HIGH}},
            "gain", new int[][] {FEW, {LOW, 1, 2, 9, 16, 17, HIGH}, {LOW, 1, 2, 9, 16, 17, HIGH}},
            "note", new int[][] {{-1, 0, 3, 5, 6, HIGH}, {-1, 0, 2, 3, LOW}, {-1, 0, 6, 7, HIGH}, {LOW, 0, 1, 6, 7}, {LOW, -1, 0, 0x123456, HIGH}},
            "signs", new int[][] {{-1, 0, 1, 5, 6}, {-1, 0, 1, 3, 4}, {LOW, -1, 0, 1, 3, 4, 5, HIGH}, {LOW, -1, 0, 1, 2, 6, 7, HIGH}});

    private Both both;
    private int calls;
    private int state;

    public static void main(String[] args) throws Exception {
        GridTest test = new GridTest();
        for (int state = 0; state < 4; state++) {
            for (String name : Both.names()) test.grid(state, name);
        }
        Checks.finish();
    }

    private void grid(int which, String name) throws Exception {
        state = which;
        begin();
        Class<?>[] types = Both.parameters(name);
        int[][] own = OWN.get(name);
        int[][] rows = new int[types.length][];
        long all = 1;
        for (int i = 0; i < rows.length; i++) {
            rows[i] = own != null ? own[i] : types.length < 3 ? MANY : SOME;
            all *= rows[i].length;
        }
        for (long k = 0; k < all; k++) {
            Object[] args = new Object[types.length];
            long rest = k;
            for (int i = 0; i < args.length; i++) {
                int v = rows[i][(int) (rest % rows[i].length)];
                rest /= rows[i].length;
                args[i] = types[i] == long.class ? (Object) (long) v : (Object) v;
            }
            ask(name, args);
        }
        look();
    }

    /** What is not refused may have changed the state: the next call comes to another object. */
    private void ask(String name, Object[] args) throws Exception {
        if (calls > CALLS) {
            look();
            begin();
        }
        calls++;
        boolean asks = name.endsWith("Of") || name.equals("worth") || name.equals("gain") || name.equals("holds") || name.equals("written")
                || name.equals("alike") || name.equals("shortest") || name.equals("item") || name.equals("taken") || name.equals("world") || name.equals("row");
        if (both.call(name, args) >= 0 && !asks) {
            look();
            begin();
        }
    }

    private void look() throws Exception {
        for (int what = 0; what < 5; what++) both.call("many", what);
        for (int e = 0; e < 3; e++) {
            for (int what = 0; what < 3; what++) both.call("eveningOf", e, what);
        }
        for (int i = 0; i < 6; i++) {
            for (int what = 0; what < 4; what++) {
                both.call("noteOf", i, what);
                both.call("lineOf", i, what);
            }
            both.call("noteOf", i, 10);
            both.call("row", i, 2);
        }
        for (int i = 0; i < 4; i++) {
            both.call("taken", i, 0);
            both.call("taken", i, 10);
            both.call("item", i, 0, 0);
        }
        both.call("seed", 5);
        both.call("valley");
        both.call("again");
        both.call("worlds");
    }

    private void begin() throws Exception {
        both = new Both();
        calls = 0;
        if (state == 0) return;
        tell(state == 1 ? "evening 1 3 9;note 0:1,2;strokes 1:1,1;turned 2 at 3:4,5,6;more 0 1;whole 2 2;"
                : state == 2 ? "note 0:1,0;left 1 at 1:3,1;debt 2:1;note 0:15;note 1:7;note 2:1;same 0 0;whole 2 1;same 1 1;more 0 2;whole 3 5;same 5 5;"
                : "evening 0 2 4;note 0:5;note 1:1,2;strokes 2:1;same 1 1;");
        both.call("keep");
        both.call("prove", 0);
        both.call("seed", -9);
        both.call("sheet", 0, 0, 4);
        both.call("put", 0, 1, 77);
        both.call("sheet", 1, 3, 40);
        both.call("shelf", 0, 0, 1);
        both.call("shelf", 1, 1, 0);
        both.call("act", 0, 3, 9);
        int bytes = state == 2 ? 200 : 8;
        for (int left = bytes; left > 0; left -= 8) both.call("feed", 0x2020202020202020L, 8);
        calls = 60;
    }

    private void tell(String text) throws Exception {
        for (int at = 0; at < text.length(); at += 8) {
            int n = Math.min(8, text.length() - at);
            long eight = 0;
            for (int i = 0; i < n; i++) eight |= (long) text.charAt(at + i) << (8 * i);
            both.call("feed", eight, n);
        }
        both.call("valley");
    }
}
