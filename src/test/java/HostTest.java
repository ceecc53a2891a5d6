/** Promises 35 to 42: sheet, put, item, shelf, taken, act, trace, many. */
public final class HostTest {
    public static void main(String[] args) {
        sheets();
        shelves();
        shelfNotes();
        acts();
        parted();
        noTrace();
        many();
        Checks.finish();
    }

    private static void sheets() {
        RoomNumbers x = new RoomNumbers();
        int[][] bad = {{-1, 0, 1}, {4, 0, 1}, {0, -2, 1}, {0, 4, 1}, {0, 0, 41}, {4, 0, -1}, {0, 4, -1}};
        for (int[] b : bad) Checks.due("bad sheet", x.sheet(b[0], b[1], b[2]), RoomNumbers.BAD);
        Checks.due("below 0", x.sheet(0, 0, -1), -14);
        Checks.due("below 0", x.sheet(0, 3, Integer.MIN_VALUE), -14);
        Checks.due("missing still", x.item(0, 0, 0), -11);
        long[][] narrow = {{0, 200, -56}, {1, 40000, -25536}, {2, 1 << 30, 1 << 30}, {3, -5, -5}};
        for (long[] row : narrow) {
            int sort = (int) row[0];
            Checks.due("sheet", x.sheet(sort, sort, 40), 1);
            Checks.due("all 0", x.item(sort, sort, 39), 0);
            Checks.due("put", x.put(sort, 39, (int) row[1]), 1);
            Checks.due("item", x.item(sort, sort, 39), row[2]);
            Checks.due("outside", x.put(sort, 40, 1), -12);
            Checks.due("outside", x.put(sort, -1, 1), -12);
            Checks.due("outside", x.item(sort, sort, 40), -12);
            Checks.due("outside", x.item(sort, sort, -1), -12);
            Checks.due("another sort, ahead of outside", x.item(sort, (sort + 1) % 4, 40), -13);
        }
        Checks.due("bad put", x.put(4, 0, 1), RoomNumbers.BAD);
        Checks.due("bad put", x.put(-1, 0, 1), RoomNumbers.BAD);
        Checks.due("bad item", x.item(4, 0, 0), RoomNumbers.BAD);
        Checks.due("bad item", x.item(0, 4, 0), RoomNumbers.BAD);
        Checks.due("bad item", x.item(0, -1, 0), RoomNumbers.BAD);
        Checks.due("made anew", x.sheet(0, 0, 40), 1);
        Checks.due("all 0", x.item(0, 0, 39), 0);
        Checks.due("of none", x.sheet(0, 0, 0), 1);
        Checks.due("outside", x.put(0, 0, 0), -12);
        Checks.due("missing, n counts nothing", x.sheet(0, -1, 99), 1);
        Checks.due("missing, n counts nothing", x.sheet(0, -1, -99), 1);
        Checks.due("nothing", x.put(0, 0, 0), -11);
        Checks.due("nothing, ahead of another sort", x.item(0, 3, 0), -11);
        Checks.due("bad, ahead of nothing", x.item(0, 4, 0), RoomNumbers.BAD);
    }

    private static void shelves() {
        RoomNumbers x = Checks.told("note 0:1;");
        int[][] bad = {{-1, 2, 0}, {4, 2, 0}, {0, -1, 0}, {0, 3, 0}, {0, 0, 1}, {0, 0, -1}, {0, 1, 4}, {0, 1, -1}};
        for (int[] b : bad) Checks.due("bad shelf", x.shelf(b[0], b[1], b[2]), RoomNumbers.BAD);
        Checks.due("nothing", x.taken(0, 10), -11);
        Checks.due("a missing sheet", x.shelf(0, 1, 3), 1);
        Checks.due("nothing", x.taken(0, 10), -11);
        for (int sort = 0; sort <= 3; sort++) {
            x.sheet(3, sort, 7 + sort);
            Checks.due("a row", x.shelf(0, 1, 3), 1);
            for (int as = 0; as <= 5; as++) Checks.due("no note", x.taken(0, as), -13);
            for (int as = 10; as <= 13; as++) Checks.due("a row", x.taken(0, as), as == sort + 10 ? 7 + sort : -13);
        }
        for (int as : new int[] {-1, 6, 9, 14}) Checks.due("bad as", x.taken(0, as), RoomNumbers.BAD);
        Checks.due("bad shelf", x.taken(4, 0), RoomNumbers.BAD);
        Checks.due("bad shelf", x.taken(-1, 0), RoomNumbers.BAD);
        x.sheet(3, 0, 1);
        Checks.due("the row it was", x.taken(0, 13), 10);
        x.sheet(3, -1, 1);
        Checks.due("the row it was", x.taken(0, 13), 10);
        Checks.due("emptied", x.shelf(0, 2, 99), 1);
        Checks.due("nothing", x.taken(0, 13), -11);
        Checks.due("bad, ahead of nothing", x.taken(0, 6), RoomNumbers.BAD);
        x.sheet(1, 0, 3);
        x.shelf(2, 0, 0);
        x.shelf(2, 1, 1);
        Checks.due("a row where a note was", x.taken(2, 10), 3);
        x.shelf(2, 0, 0);
        Checks.due("a note where a row was", x.taken(2, 0), 0);
        Checks.tell(x, "");
        Checks.due("neither the note nor the row", x.taken(2, 10), -11);
        x.note(0, 0, 0, 1, 1);
        x.shelf(2, 1, 2);
        Checks.due("a missing sheet where a note was", x.taken(2, 0), -11);
    }

    private static void shelfNotes() {
        RoomNumbers x = Checks.told("note 0:1; strokes 0:1; broken 0:1; left 0:1; turned 0:1; debt 0:1;");
        // By kind of the thing: the kinds that it may be taken for.
        int[] kinds = {1, 3, 5, 13, 17, 35};
        for (int n = 0; n < 6; n++) {
            x.shelf(1, 0, n);
            for (int as = 0; as <= 5; as++) {
                Checks.due("kind " + n + " as " + as, x.taken(1, as), (kinds[n] >> as & 1) != 0 ? n : -13);
            }
            for (int as = 10; as <= 13; as++) Checks.due("no row", x.taken(1, as), -13);
        }
        x.shelf(0, 0, 0);
        Checks.tell(x, "strokes 0:1;");
        Checks.due("no such one any more", x.taken(1, 0), -11);
        Checks.due("by its number", x.taken(0, 1), 0);
        x.act(0, 0, 1);
        Checks.due("an act of nothing", x.act(1, 0, 1), 0);
        Checks.due("no trace then", x.many(4), 0);
    }

    private static void act(RoomNumbers x, int act, int with, long answer, int... bodies) {
        Checks.due("act " + act + " with " + with, x.act(0, act, with), answer);
        Checks.due("bodies of act " + act, x.many(4), bodies.length);
        for (int i = 0; i < bodies.length; i++) Checks.due("body " + i + " of act " + act, x.trace(i), bodies[i]);
        Checks.due("no more bodies", x.trace(bodies.length), RoomNumbers.NONE);
        Checks.due("no body ahead", x.trace(-1), RoomNumbers.NONE);
    }

    private static void acts() {
        RoomNumbers x = Checks.told("note 0:1; note 0 at 4:1; strokes 0 at 6:1; broken 0 at 5:1; left 0 at 2:1; debt 0 at 3:1;");
        x.shelf(0, 0, 1);
        act(x, 0, 10, 11, 10);
        act(x, 1, 10, 22, 11, 10);
        act(x, 2, -10, -3, 12);
        act(x, 3, 10, 22 ^ 4, 13, 11, 10);
        x.shelf(0, 0, 2);
        act(x, 0, 10, 12, 10);
        act(x, 1, 10, 18, 20, 11, 10);
        act(x, 2, 10, 2, 12);
        act(x, 3, 10, 18 ^ 6, 13, 20, 11, 10);
        x.shelf(0, 0, 3);
        act(x, 0, 10, 39, 30, 10);
        act(x, 1, 10, 78, 11, 30, 10);
        act(x, 3, 10, (78 ^ 5) + 1, 31, 13, 11, 30, 10, 12);
        x.shelf(0, 0, 4);
        act(x, 0, 10, -42, 40, 30, 10);
        act(x, 1, 10, -84 - 24, 41, 11, 40, 30, 10, 40, 30, 10);
        act(x, 3, 10, (-108 ^ 2) - 2, 31, 13, 41, 11, 40, 30, 10, 40, 30, 10, 12);
        x.shelf(0, 0, 5);
        act(x, 0, 10, 10, 51, 10);
        act(x, 1, 10, 17, 20, 11, 51, 10);
        act(x, 2, 9, (11 / -2) ^ 1, 50, 12);
        act(x, 3, 10, 17 ^ 3, 13, 20, 11, 51, 10);
        act(x, 2, Integer.MAX_VALUE, ((Integer.MAX_VALUE + 2) / -2) ^ 1, 50, 12);
        Checks.tell(x, "note 0:1; turned 0 at 4:1; turned 0:1;");
        x.shelf(0, 0, 1);
        act(x, 2, 10, 3 + 5, 61, 12, 10);
        act(x, 3, 10, (22 ^ 4) * 2, 60, 13, 11, 10);
        Checks.tell(x, "note 0:1; note 0:1;");
        act(x, 2, Integer.MIN_VALUE, Integer.MIN_VALUE, 12);
        act(x, 0, Integer.MAX_VALUE, Integer.MIN_VALUE, 10);
    }

    private static void parted() {
        RoomNumbers x = Checks.told("note 0:1; turned 0 at 1:1; broken 0 at 2:1; left 0 at 3:1; note 0:1; debt 0 at 5:1;");
        x.shelf(0, 0, 0);
        act(x, 2, 10, -15, 12);
        act(x, 0, 10, 10, 10);
        x.shelf(0, 0, 1);
        act(x, 2, 10, -15, 61, 12);
        x.shelf(0, 0, 2);
        act(x, 3, 10, -15, 31, 13, 11, 30, 10, 12);
        x.shelf(0, 0, 3);
        act(x, 3, 10, -15, 31, 13, 41, 11, 40, 30, 10, 40, 30, 10, 12);
        x.shelf(0, 0, 5);
        act(x, 2, 10, -15, 50, 12);
        act(x, 0, 10, 10, 51, 10);
    }

    private static void noTrace() {
        RoomNumbers x = Checks.told("note 0:1;");
        x.sheet(0, 0, 1);
        x.shelf(0, 0, 0);
        x.shelf(1, 1, 0);
        int[][] none = {{-1, 0}, {4, 0}, {0, -1}, {0, 4}, {1, 0}, {2, 0}};
        for (int[] n : none) {
            act(x, 3, 1, 2, 13, 11, 10);
            Checks.due("act of none", x.act(n[0], n[1], 5), 0);
            Checks.due("no trace then", x.many(4), 0);
            Checks.due("no trace then", x.trace(0), RoomNumbers.NONE);
        }
    }

    private static void many() {
        RoomNumbers x = Checks.told("note 0:1; note 1:1; strokes 0:1; same 0 1; same 0 0;");
        x.prove(0);
        x.feed(0x2020, 2);
        x.shelf(0, 0, 2);
        x.act(0, 3, 0);
        int[] due = {3, 2, 3, 2, 4};
        for (int what = 0; what < 5; what++) Checks.due("many(" + what + ")", x.many(what), due[what]);
        Checks.due("bad", x.many(5), RoomNumbers.BAD);
        Checks.due("bad", x.many(-1), RoomNumbers.BAD);
    }
}
