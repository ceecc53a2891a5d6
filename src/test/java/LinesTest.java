/** Promises 12 to 23: line, lineOf, strike, worlds, world, may, sure, holds, proof, mended, which, gain. */
public final class LinesTest {
    public static void main(String[] args) {
        line();
        strike();
        worlds();
        sorts();
        threeEvenings();
        holds();
        proof();
        mended();
        oneWorld();
        mendedByLines();
        which();
        gain();
        Checks.finish();
    }

    private static void line() {
        RoomNumbers x = Checks.told("note 0:1; note 1:2;");
        int[][] bad = {{-1, 0, 0, 0}, {4, 0, 0, 0}, {0, 2, 0, 0}, {0, 0, 2, 0}, {0, -1, 0, 0}, {1, 0, -1, 0},
            {2, 0, 1, 2}, {2, 0, 1, -1}, {2, 0, 2, 1}, {3, 2, 0, 1}, {3, 0, 0, 0}, {3, 0, 0, 100}, {3, 0, 0, -3}};
        for (int[] b : bad) Checks.due("bad line", x.line(b[0], b[1], b[2], b[3]), RoomNumbers.BAD);
        Checks.due("same", x.line(0, 1, 0, -7), 0);
        Checks.due("more", x.line(1, 0, 1, 99), 1);
        Checks.due("sum", x.line(2, 0, 1, 1), 2);
        Checks.due("whole", x.line(3, 1, Integer.MIN_VALUE, 99), 3);
        int[][] told = {{0, 1, 0, 0}, {1, 0, 1, 0}, {2, 0, 1, 1}, {3, 1, 0, 99}};
        for (int i = 0; i < 4; i++) {
            for (int what = 0; what < 4; what++) Checks.due("lineOf", x.lineOf(i, what), told[i][what]);
        }
        Checks.due("bad what", x.lineOf(0, 4), RoomNumbers.BAD);
        Checks.due("bad what", x.lineOf(0, -1), RoomNumbers.BAD);
        Checks.due("bad line", x.lineOf(4, 0), RoomNumbers.BAD);
        Checks.due("bad line", x.lineOf(-1, 0), RoomNumbers.BAD);
        x.line(3, 0, 0, 1);
        Checks.due("the sixth", x.line(3, 0, 0, 1), 5);
        Checks.due("the seventh", x.line(3, 0, 0, 1), RoomNumbers.FULL);
        Checks.due("bad ahead of full", x.line(3, 0, 0, 0), RoomNumbers.BAD);
    }

    private static void strike() {
        RoomNumbers x = Checks.told("note 0:1; whole 0 1; whole 0 2; whole 0 3; whole 0 4;");
        Checks.due("no world", x.worlds(), 0);
        Checks.due("strike", x.strike(1), 3);
        Checks.due("behind it", x.lineOf(1, 3), 3);
        Checks.due("behind it", x.lineOf(2, 3), 4);
        Checks.due("no such line", x.lineOf(3, 3), RoomNumbers.BAD);
        Checks.due("bad", x.strike(3), RoomNumbers.BAD);
        Checks.due("bad", x.strike(-1), RoomNumbers.BAD);
        Checks.due("the last", x.strike(2), 2);
        Checks.due("strike", x.strike(1), 1);
        Checks.due("worlds again", x.worlds(), 3375);
        Checks.due("the only one", x.strike(0), 0);
        Checks.due("bad", x.strike(0), RoomNumbers.BAD);
    }

    private static void worlds() {
        RoomNumbers x = Checks.told("evening 0 3 5; evening 1 9 9; evening 2 2 4; note 2:2;");
        Checks.due("worlds", x.worlds(), 6);
        int[][] all = {{3, 9, 3}, {3, 9, 4}, {4, 9, 3}, {4, 9, 4}, {5, 9, 3}, {5, 9, 4}};
        for (int k = 0; k < 6; k++) {
            for (int e = 0; e < 3; e++) Checks.due("world " + k + " " + e, x.world(k, e), all[k][e]);
        }
        Checks.due("none", x.world(6, 0), RoomNumbers.NONE);
        Checks.due("none", x.world(-1, 0), RoomNumbers.NONE);
        Checks.due("bad", x.world(0, 3), RoomNumbers.BAD);
        Checks.due("bad", x.world(0, -1), RoomNumbers.BAD);
        Checks.due("bad ahead of none", x.world(99, 3), RoomNumbers.BAD);
        Checks.due("may", x.may(0), 8 + 16 + 32);
        Checks.due("may", x.may(1), 512);
        Checks.due("may", x.may(2), 8 + 16);
        Checks.due("bad may", x.may(3), RoomNumbers.BAD);
        Checks.due("bad may", x.may(-1), RoomNumbers.BAD);
        Checks.due("sure", x.sure(1), 9);
        Checks.due("several", x.sure(2), RoomNumbers.NONE);
        Checks.due("bad sure", x.sure(3), RoomNumbers.BAD);
        Checks.due("bad sure", x.sure(-1), RoomNumbers.BAD);
        x.evening(0, 16, 16);
        Checks.due("sure of 16", x.sure(0), 16);
        x.alter(0, 0, 15);
        Checks.due("no world", x.worlds(), 0);
        Checks.due("no world", x.world(0, 0), RoomNumbers.NONE);
        Checks.due("may nothing", x.may(1), 0);
        Checks.due("sure of nothing", x.sure(1), RoomNumbers.NONE);
    }

    private static void sorts() {
        // 2b + 1 is 3c: by 7 and 5, 10 and 7, 13 and 9, 16 and 11.
        RoomNumbers same = Checks.told("note 0:2,1; note 1:3,0; same 0 1;");
        Checks.due("same: 2b + 1 is 3c", same.worlds(), 4 * 15);
        Checks.due("same: first", same.world(0, 0), 7);
        Checks.due("same: first", same.world(0, 1), 5);
        RoomNumbers more = Checks.told("evening 0 10 10; note 0:2,1; note 1:3,0; more 0 1;");
        Checks.due("more: 21 above 3c", more.may(1), 16 + 32 + 64);
        RoomNumbers sum = Checks.told("evening 0 10 10; note 0:2,1; note 1:3,0; note 2:1,0,0; sum 0 1 2;");
        Checks.due("sum: 21 and 3c is dd", sum.worlds(), 1);
        Checks.due("sum: 21 and 15 is 36", sum.sure(1), 5);
        Checks.due("sum: 21 and 15 is 36", sum.sure(2), 6);
        RoomNumbers whole = Checks.told("note 0:2,1; whole 0 7;");
        Checks.due("whole: 2b + 1 by 7", whole.may(0), 1 << 3 | 1 << 10);
        RoomNumbers zero = Checks.told("note 0:0; debt 0:1,1,1,1; strokes 1:1,1,1,1; note 1:0; whole 0 99; whole 1 4; sum 1 2 3;");
        Checks.due("0 and what is below it are multiples", zero.worlds(), 3375);
        RoomNumbers self = Checks.told("note 0:1; more 0 0;");
        Checks.due("nothing is more than itself", self.worlds(), 0);
    }

    private static void threeEvenings() {
        RoomNumbers x = Checks.told("note 0:1,0; note 1:1,0; note 2:1,0; sum 0 1 2;");
        int due = 0;
        for (int a = 2; a <= 16; a++) {
            for (int b = 2; b <= 16; b++) due += a + b <= 16 ? 1 : 0;
        }
        Checks.due("a and b is c", x.worlds(), due);
        Checks.due("may", x.may(2), 131068 & -(1 << 4));
        Checks.due("the last world", x.world(due - 1, 2), 16);
        Checks.due("the last world", x.world(due - 1, 0), 14);
        Checks.due("another", x.line(2, 2, 0, 1), 1);
        Checks.due("both at once", x.worlds(), 0);
        Checks.due("both are needed", x.proof(), 3);
        Checks.due("mended", x.mended(0), 0);
        Checks.due("mended", x.mended(1), 0);
        Checks.due("mended", x.mended(2), 0);
    }

    private static void holds() {
        RoomNumbers x = Checks.told("note 0:9; note 1:1,0; evening 0 2 3; same 0 1;");
        Checks.due("whether it can be or not", x.holds(0, 2, 9, 2), 1);
        Checks.due("not", x.holds(0, 2, 8, 2), 0);
        int[][] bad = {{1, 2, 2, 2}, {-1, 2, 2, 2}, {0, 1, 2, 2}, {0, 2, 17, 2}, {0, 2, 2, 0}, {0, 2, 2, 17}};
        for (int[] b : bad) Checks.due("bad holds", x.holds(b[0], b[1], b[2], b[3]), RoomNumbers.BAD);
    }

    private static void proof() {
        Checks.due("a world with all", Checks.told("note 0:1; same 0 0;").proof(), RoomNumbers.NONE);
        Checks.due("none needed", Checks.told("strokes 0:2; more 0 0;").proof(), 0);
        Checks.due("none needed, no lines", Checks.told("evening 0 2 2; note 0:2;").proof(), 0);
        Checks.due("the least of several", Checks.told("note 0:1; same 0 0; more 0 0; whole 0 2;").proof(), 2);
        Checks.due("two", Checks.told("note 0:1,0; note 0:1,1; whole 0 2; same 0 0; whole 1 2;").proof(), 5);
        Checks.due("one before two", Checks.told("note 0:1,0; note 0:1,1; whole 0 2; whole 1 2; same 0 1;").proof(), 4);
    }

    private static void mended() {
        RoomNumbers x = Checks.told("evening 0 3 3; note 0:1,2; note 0:2,5; note 1:15;");
        Checks.due("no world", x.worlds(), 0);
        Checks.due("the note", x.mended(0), 1);
        Checks.due("the place", x.mended(1), 1);
        Checks.due("the sign", x.mended(2), 0);
        Checks.due("the valley is as it was", x.noteOf(1, 11), 5);
        Checks.due("bad", x.mended(3), RoomNumbers.BAD);
        Checks.due("bad", x.mended(-1), RoomNumbers.BAD);
        x.line(0, 0, 1, 0);
        Checks.due("by a line", x.mended(0), RoomNumbers.NONE);
        x.alter(1, 0, 1);
        Checks.due("by a line", x.mended(2), 2);
        x.alter(1, 1, 2);
        Checks.due("as it is", x.mended(0), RoomNumbers.STATE);
        Checks.due("bad ahead of state", x.mended(3), RoomNumbers.BAD);
        x.line(1, 0, 0, 0);
        Checks.due("a line that never holds", x.mended(0), RoomNumbers.NONE);
        RoomNumbers y = Checks.told("evening 0 2 2; note 0:2; note 0:2;");
        Checks.due("two are wrong", y.mended(0), RoomNumbers.NONE);
        RoomNumbers s = Checks.told("strokes 2:1,1,0; debt 2:1;");
        Checks.due("strokes", s.mended(0), 0);
        Checks.due("strokes", s.mended(1), 2);
        Checks.due("strokes", s.mended(2), 1);
        RoomNumbers first = Checks.told("evening 0 10 10; note 0:3; note 0:4; same 0 1;");
        Checks.due("the first note", first.mended(0), 0);
        Checks.due("the first note", first.mended(2), 4);
    }

    private static void oneWorld() {
        RoomNumbers x = Checks.told("evening 0 3 3; evening 1 4 4; evening 2 5 5; note 0:1; same 0 0;");
        Checks.due("worlds", x.worlds(), 1);
        Checks.due("proof", x.proof(), RoomNumbers.NONE);
        Checks.due("mended", x.mended(0), RoomNumbers.STATE);
        Checks.due("guess", x.guess(), 0);
        Checks.due("prove", x.prove(0), 1);
        for (int e = 0; e < 3; e++) Checks.due("sure", x.sure(e), 3 + e);
    }

    private static void mendedByLines() {
        RoomNumbers x = Checks.told("evening 0 3 4; evening 1 10 10; note 0:1,0; note 1:9; same 0 1;");
        Checks.due("3,0 is worth 9 only where it can't be", x.mended(0), 1);
        Checks.due("3,0 is worth 9 only where it can't be", x.mended(1), 0);
        Checks.due("3,0 is worth 9 only where it can't be", x.mended(2), 3);
        RoomNumbers sum = Checks.told("evening 0 2 2; strokes 0:1; strokes 0:1,1; evening 2 10 10; note 2:1; sum 0 1 2;");
        Checks.due("the last one of a sum", sum.mended(0), 2);
        Checks.due("the last one of a sum", sum.mended(1), 0);
        Checks.due("the last one of a sum", sum.mended(2), 3);
        RoomNumbers more = Checks.told("strokes 0:1; evening 2 10 10; note 2:5; more 0 1;");
        Checks.due("the second of two", more.mended(0), 1);
        Checks.due("the second of two", more.mended(2), 0);
        RoomNumbers whole = Checks.told("note 1:5; whole 0 7;");
        Checks.due("a multiple", whole.mended(2), 0);
        RoomNumbers far = Checks.told("evening 0 9 9; note 0:7,8; whole 0 9; strokes 0:0; debt 1:0;");
        Checks.due("too much is wrong", far.mended(0), RoomNumbers.NONE);
    }

    private static void which() {
        RoomNumbers x = Checks.told("evening 0 2 4; evening 1 5 6; evening 2 7 9; note 0:3; note 1:1,0; note 2:1,0; more 2 1;");
        Checks.due("note 0", x.which(0), 7);
        Checks.due("note 1", x.which(1), 3);
        Checks.due("note 2", x.which(2), 4);
        x.alter(0, 0, 6);
        Checks.due("though it is wrong now", x.worlds(), 0);
        Checks.due("note 0", x.which(0), 4);
        Checks.due("the valley is as it was", x.noteOf(0, 1), 0);
        Checks.due("note 1", x.which(1), 0);
        Checks.due("bad", x.which(3), RoomNumbers.BAD);
        Checks.due("bad", x.which(-1), RoomNumbers.BAD);
        Checks.due("worlds as they were", x.worlds(), 0);
    }

    private static void gain() {
        RoomNumbers x = Checks.told("note 0:1,2; debt 0:1,1;");
        Checks.due("gain", x.gain(0, 2, 16), 14);
        Checks.due("gain", x.gain(0, 16, 2), -14);
        Checks.due("gain of debt", x.gain(1, 16, 2), 0);
        int[][] bad = {{2, 2, 2}, {-1, 2, 2}, {0, 1, 2}, {0, 2, 1}, {0, 17, 2}, {0, 2, 17}};
        for (int[] b : bad) Checks.due("bad gain", x.gain(b[0], b[1], b[2]), RoomNumbers.NO);
    }
}
