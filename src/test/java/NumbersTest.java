/** Promises 24 to 29: written, alike, shortest, add, seed, guess. */
public final class NumbersTest {
    public static void main(String[] args) {
        written();
        alike();
        shortest();
        add();
        guess();
        Checks.finish();
    }

    private static void written() {
        RoomNumbers x = new RoomNumbers();
        for (int base = 2; base <= 16; base++) {
            for (int v = 0; v <= 9999; v += v < 300 ? 1 : 97) {
                String text = Integer.toString(v, base);
                Checks.due("length", x.written(v, base, -1), text.length());
                for (int i = 0; i < text.length(); i++) {
                    Checks.due("sign", x.written(v, base, i), Character.digit(text.charAt(i), 16));
                }
                Checks.due("beyond", x.written(v, base, text.length()), RoomNumbers.NONE);
            }
        }
        int[][] bad = {{-1, 2, 0}, {10000, 2, 0}, {5, 1, 0}, {5, 17, 0}, {5, 0, -1},
                {0, 2, -2}, {9, 9, -2}, {9999, 16, -3}, {9999, 2, Integer.MIN_VALUE}};
        for (int[] b : bad) Checks.due("bad written", x.written(b[0], b[1], b[2]), RoomNumbers.BAD);
        Checks.due("far beyond", x.written(9, 9, Integer.MAX_VALUE), RoomNumbers.NONE);
    }

    private static void alike() {
        RoomNumbers x = new RoomNumbers();
        for (int set = 4; set < 131072; set += 4 * 37) {
            for (int from : new int[] {0, 1, 2, 5, 9, 15, 16, 17, 100, 9999}) {
                Checks.due("alike(" + set + ", " + from + ")", x.alike(set, from), slowAlike(set, from));
            }
        }
        Checks.due("two", x.alike(1 << 7 | 1 << 9, 6), 6);
        Checks.due("two", x.alike(1 << 7 | 1 << 9, 7), RoomNumbers.NONE);
        int[][] bad = {{0, 1}, {1, 1}, {2, 1}, {6, 1}, {1 << 17, 1}, {-1, 1}, {4, -1}, {4, 10000}, {-4, 1}};
        for (int[] b : bad) Checks.due("bad alike", x.alike(b[0], b[1]), RoomNumbers.BAD);
    }

    private static int slowAlike(int set, int from) {
        for (int v = from; v <= 9999; v++) {
            String first = null;
            boolean alike = true;
            for (int b = 2; b <= 16 && alike; b++) {
                if ((set >> b & 1) == 0) continue;
                String text = Integer.toString(v, b);
                if (first == null) first = text;
                alike = first.equals(text);
            }
            if (alike) return v;
            if (v > from + 40 && v > 40) return RoomNumbers.NONE;
        }
        return RoomNumbers.NONE;
    }

    private static void shortest() {
        RoomNumbers x = new RoomNumbers();
        for (int set = 4; set < 131072; set += 4 * 53) {
            for (int v = 0; v <= 9999; v += 1 + v / 3) {
                int best = 0;
                for (int b = 2; b <= 16; b++) {
                    if ((set >> b & 1) == 0) continue;
                    if (best == 0 || Integer.toString(v, b).length() < Integer.toString(v, best).length()) best = b;
                }
                Checks.due("shortest(" + v + ", " + set + ")", x.shortest(v, set), best);
            }
        }
        int[][] bad = {{-1, 4}, {10000, 4}, {5, 0}, {5, 2}, {5, 5}, {5, 1 << 17}, {5, -1}};
        for (int[] b : bad) Checks.due("bad shortest", x.shortest(b[0], b[1]), RoomNumbers.BAD);
    }

    private static void add() {
        RoomNumbers x = Checks.told("note 2 at 3:1,2,3; note 1:9,12; turned 0:1;");
        Checks.due("add", x.add(0, 1), 3);
        Checks.due("kind", x.noteOf(3, 0), 0);
        Checks.due("evening of the first", x.noteOf(3, 1), 2);
        Checks.due("a", x.noteOf(3, 2), 0);
        Checks.due("signs", x.noteOf(3, 3), 3);
        Checks.due("sign", x.noteOf(3, 10), 1);
        Checks.due("sign", x.noteOf(3, 11), 11);
        Checks.due("sign", x.noteOf(3, 12), 15);
        Checks.due("the other way", x.add(1, 0), 4);
        Checks.due("evening of the first", x.noteOf(4, 1), 1);
        Checks.due("above 15", x.add(1, 1), RoomNumbers.STATE);
        Checks.due("of another kind", x.add(0, 2), RoomNumbers.STATE);
        Checks.due("of another kind", x.add(2, 0), RoomNumbers.STATE);
        Checks.due("bad", x.add(5, 0), RoomNumbers.BAD);
        Checks.due("bad", x.add(0, 5), RoomNumbers.BAD);
        Checks.due("bad", x.add(-1, 0), RoomNumbers.BAD);
        Checks.due("with itself", x.add(0, 0), 5);
        Checks.due("sign", x.noteOf(5, 12), 6);
        Checks.due("full", x.add(0, 0), RoomNumbers.FULL);
        Checks.due("state is named ahead of full", x.add(0, 2), RoomNumbers.STATE);
        Checks.due("bad is named ahead of full", x.add(0, 6), RoomNumbers.BAD);
        Checks.due("six notes", x.many(0), 6);
    }

    private static void guess() {
        RoomNumbers x = new RoomNumbers();
        int z = 1;
        for (int i = 0; i < 20; i++) {
            z = z * 1103515245 + 12345;
            Checks.due("guess", x.guess(), (z >>> 16) % 3375);
        }
        Checks.due("seed", x.seed(-5), z);
        Checks.due("seed", x.seed(-6), -5);
        z = -6 * 1103515245 + 12345;
        x.evening(0, 2, 3);
        x.evening(1, 2, 3);
        x.evening(2, 2, 4);
        Checks.due("guess", x.guess(), (z >>> 16) % 12);
        x.note(0, 0, 0, 1, 9);
        Checks.due("no world", x.guess(), RoomNumbers.NONE);
        Checks.due("z stays then", x.seed(0), z);
    }
}
