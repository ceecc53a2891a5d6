/** Promises 30 to 34: prove, row, alterRow, judge, signs. */
public final class RowsTest {
    public static void main(String[] args) {
        rows();
        judge();
        judgeCounts();
        signs();
        Checks.finish();
    }

    private static void rows() {
        RoomNumbers x = Checks.told("evening 0 10 10; evening 2 3 4; note 0:1,2; debt 1:1,1; note 2:2,2;");
        Checks.due("no rows", x.row(0, 0), RoomNumbers.NO);
        Checks.due("no rows", x.alterRow(0, 0, 1), RoomNumbers.NO);
        Checks.due("worlds", x.worlds(), 30);
        Checks.due("prove", x.prove(29), 3);
        long[][] all = {{0, 10, 12}, {1, 16, -2}, {2, 4, 10}};
        for (int i = 0; i < 3; i++) {
            for (int what = 0; what < 3; what++) Checks.due("row", x.row(i, what), all[i][what]);
        }
        Checks.due("none", x.prove(30), RoomNumbers.NONE);
        Checks.due("none", x.prove(-1), RoomNumbers.NONE);
        Checks.due("rows stay", x.many(2), 3);
        int[][] bad = {{3, 0}, {-1, 0}, {0, 3}, {0, -1}};
        for (int[] b : bad) {
            Checks.due("bad row", x.row(b[0], b[1]), RoomNumbers.NO);
            Checks.due("bad alterRow", x.alterRow(b[0], b[1], 5), RoomNumbers.NO);
        }
        Checks.due("alterRow", x.alterRow(1, 2, Long.MIN_VALUE), -2);
        Checks.due("alterRow", x.alterRow(1, 2, -2), Long.MIN_VALUE);
        Checks.due("judge", x.judge(), 0);
        Checks.due("prove", x.prove(0), 3);
        Checks.due("row", x.row(1, 1), 2);
    }

    private static RoomNumbers proved() {
        RoomNumbers x = Checks.told("evening 0 4 8; note 0:1,2; note 0:2,3; note 1:5; more 1 0; same 2 2;");
        x.prove(0);
        Checks.due("judge", x.judge(), 0);
        return x;
    }

    private static void judge() {
        RoomNumbers x = proved();
        x.alterRow(1, 0, 2);
        Checks.due("another note", x.judge(), 2);
        x = proved();
        x.alterRow(0, 0, 1L << 32);
        Checks.due("a note far off", x.judge(), 1);
        x = proved();
        x.alterRow(2, 2, 5 + (1L << 32));
        Checks.due("a worth far off", x.judge(), 3);
        x.alterRow(2, 2, 5);
        Checks.due("right again", x.judge(), 0);
        x.alterRow(2, 1, 6 + (1L << 32));
        Checks.due("a base far off", x.judge(), 3);
        x.alterRow(2, 1, 5);
        Checks.due("it can't be in 5", x.judge(), 3);
        x.alterRow(2, 1, 17);
        Checks.due("above most", x.judge(), 3);
        x.alterRow(2, 1, 16);
        Checks.due("right by 16", x.judge(), 0);
        x.alterRow(1, 1, 5);
        x.alterRow(1, 2, 13);
        Checks.due("another base than ahead of it", x.judge(), 2);
        x.alterRow(0, 1, 5);
        x.alterRow(0, 2, 7);
        Checks.due("both", x.judge(), 0);
        x.alterRow(0, 1, 3);
        x.alterRow(0, 2, 5);
        Checks.due("below least", x.judge(), 1);
        x.alterRow(0, 1, -5);
        Checks.due("below 0", x.judge(), 1);
        x = proved();
        x.line(0, 0, 1, 0);
        Checks.due("a line", x.judge(), 302);
        x.line(1, 0, 0, 0);
        Checks.due("the first line", x.judge(), 302);
        x.alterRow(2, 0, 0);
        Checks.due("rows ahead of lines", x.judge(), 3);
    }

    private static void judgeCounts() {
        RoomNumbers x = new RoomNumbers();
        Checks.due("nothing", x.judge(), 0);
        x.note(0, 0, 0, 1, 1);
        Checks.due("fewer", x.judge(), 222);
        x.keep();
        x.note(0, 0, 0, 1, 1);
        x.line(1, 0, 1, 0);
        Checks.due("fewer, ahead of lines", x.judge(), 222);
        x.strike(0);
        x.prove(0);
        Checks.due("all", x.judge(), 0);
        x.again();
        Checks.due("rows stay", x.many(2), 2);
        Checks.due("the first one beyond", x.judge(), 2);
        x.alterRow(0, 2, 9);
        Checks.due("a wrong one ahead of it", x.judge(), 1);
    }

    private static void signs() {
        RoomNumbers x = Checks.told("note 0:1,2,3; note 1:7;");
        Checks.due("missing", x.signs(0, 2, 0, 0), -11);
        x.sheet(2, 0, 5);
        int[] bytes = {16, -128, 127, 15, 7};
        for (int i = 0; i < 5; i++) x.put(2, i, bytes[i]);
        Checks.due("worlds ahead", x.worlds(), 13 * 9 * 15);
        Checks.due("signs", x.signs(0, 2, 1, 2), 2);
        Checks.due("held to 0", x.noteOf(0, 10), 0);
        Checks.due("held to 15", x.noteOf(0, 11), 15);
        Checks.due("the rest stays", x.noteOf(0, 12), 3);
        Checks.due("worlds see it", x.may(0), 1 << 16);
        Checks.due("all", x.signs(0, 2, 2, 3), 3);
        Checks.due("the last", x.noteOf(0, 12), 7);
        Checks.due("fewer signs", x.signs(1, 2, 0, 2), RoomNumbers.BAD);
        Checks.due("n", x.signs(0, 2, 0, -1), RoomNumbers.BAD);
        Checks.due("n", x.signs(0, 2, 0, 7), RoomNumbers.BAD);
        Checks.due("no such note", x.signs(2, 2, 0, 1), RoomNumbers.BAD);
        Checks.due("no such note", x.signs(-1, 2, 0, 1), RoomNumbers.BAD);
        Checks.due("no such sheet", x.signs(0, 4, 0, 1), RoomNumbers.BAD);
        Checks.due("no such sheet", x.signs(0, -1, 0, 1), RoomNumbers.BAD);
        Checks.due("outside", x.signs(0, 2, 3, 3), -12);
        Checks.due("outside", x.signs(0, 2, -1, 1), -12);
        Checks.due("outside", x.signs(0, 2, Integer.MAX_VALUE, 3), -12);
        Checks.due("the end", x.signs(0, 2, 5, 0), 0);
        Checks.due("beyond the end", x.signs(0, 2, 6, 0), -12);
        for (int sort = 1; sort <= 3; sort++) {
            x.sheet(3, sort, 2);
            Checks.due("another sort, ahead of outside", x.signs(0, 3, 9, 1), -13);
        }
        Checks.due("refused ones change nothing", x.noteOf(0, 10), 15);
    }
}
