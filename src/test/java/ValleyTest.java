/** Promises 1 to 11: the new object, feed, valley, evening, eveningOf, note, noteOf, alter, move, worth, can. */
public final class ValleyTest {
    private static final int ALL = 131068;

    public static void main(String[] args) {
        newObject();
        feed();
        valley();
        faults();
        evening();
        note();
        alterAndMove();
        worth();
        can();
        Checks.finish();
    }

    private static void newObject() {
        RoomNumbers x = new RoomNumbers();
        for (int what = 0; what <= 4; what++) Checks.due("new many(" + what + ")", x.many(what), 0);
        for (int e = 0; e < 3; e++) {
            Checks.due("new eveningOf(e, 0)", x.eveningOf(e, 0), 2);
            Checks.due("new eveningOf(e, 1)", x.eveningOf(e, 1), 16);
            Checks.due("new eveningOf(e, 2)", x.eveningOf(e, 2), 0);
        }
        Checks.due("new again()", x.again(), RoomNumbers.NONE);
        Checks.due("new seed(5)", x.seed(5), 1);
        for (int i = 0; i < 4; i++) {
            Checks.due("new put", x.put(i, 0, 1), -11);
            Checks.due("new taken", x.taken(i, 0), -11);
        }
    }

    private static void feed() {
        RoomNumbers x = new RoomNumbers();
        Checks.due("feed(1, 0)", x.feed(1L, 0), RoomNumbers.BAD);
        Checks.due("feed(1, 9)", x.feed(1L, 9), RoomNumbers.BAD);
        Checks.due("feed(1, -1)", x.feed(1L, -1), RoomNumbers.BAD);
        for (int i = 1; i <= 24; i++) Checks.due("feed", x.feed(0x2020202020202020L, 8), 8 * i);
        Checks.due("feed 7", x.feed(0x20202020202020L, 7), 199);
        Checks.due("feed 2 beyond", x.feed(0x2020L, 2), RoomNumbers.FULL);
        Checks.due("feed 9 beyond", x.feed(0x2020L, 9), RoomNumbers.BAD);
        Checks.due("many(3)", x.many(3), 199);
        Checks.due("feed the last", x.feed(0x20L, 1), 200);
        Checks.due("feed one beyond", x.feed(0x20L, 1), RoomNumbers.FULL);
        Checks.due("blanks alone", x.valley(), 0);
        Checks.due("many(3)", x.many(3), 0);
        x.feed(-1L, 8);
        Checks.due("bytes 255", x.valley(), -100);
        x.feed(0x3b313a3065746f6eL, 8);
        Checks.due("the lowest comes first", x.valley(), 1);
    }

    private static void valley() {
        RoomNumbers x = Checks.told("note 0:1,2,3; strokes 1:1,1; broken 2 at 1:4,5; left 0 at 06 : 00 , 15;"
                + "turned1:7;debt 2 at 0:1,1,1,1,1,1;evening 1 3 16;evening 1 4 9; same 0 1;more 2 3;sum 0 1 5;whole 5 99;");
        int[] kinds = {0, 1, 2, 3, 4, 5};
        int[] evenings = {0, 1, 2, 0, 1, 2};
        int[] as = {0, 0, 1, 6, 0, 0};
        int[] lengths = {3, 2, 2, 2, 1, 6};
        for (int i = 0; i < 6; i++) {
            Checks.due("kind " + i, x.noteOf(i, 0), kinds[i]);
            Checks.due("evening " + i, x.noteOf(i, 1), evenings[i]);
            Checks.due("a " + i, x.noteOf(i, 2), as[i]);
            Checks.due("length " + i, x.noteOf(i, 3), lengths[i]);
        }
        Checks.due("sign", x.noteOf(0, 10), 1);
        Checks.due("sign", x.noteOf(0, 12), 3);
        Checks.due("sign", x.noteOf(3, 11), 15);
        Checks.due("the latter telling of an evening", x.eveningOf(1, 0), 4);
        Checks.due("the latter telling of an evening", x.eveningOf(1, 1), 9);
        long[][] lines = {{0, 0, 1, 0}, {1, 2, 3, 0}, {2, 0, 1, 5}, {3, 5, 0, 99}};
        Checks.due("many(1)", x.many(1), 4);
        for (int i = 0; i < 4; i++) {
            for (int what = 0; what < 4; what++) Checks.due("line " + i + " " + what, x.lineOf(i, what), lines[i][what]);
        }
        x.seed(77);
        x.note(0, 0, 0, 1, 1);
        RoomNumbers y = Checks.told("note 2:1;");
        y.prove(0);
        y.seed(9);
        y.evening(0, 5, 6);
        Checks.due("rows ahead", y.many(2), 1);
        Checks.due("valley() by blanks", Checks.tell(y, "  "), 0);
        Checks.due("notes are gone", y.many(0), 0);
        Checks.due("rows are gone", y.many(2), 0);
        Checks.due("evenings as at first", y.eveningOf(0, 0), 2);
        Checks.due("evenings as at first", y.eveningOf(0, 1), 16);
        Checks.due("z stays", y.seed(0), 9);
        y.note(0, 0, 0, 1, 1);
        y.prove(0);
        Checks.due("a wrong text", Checks.tell(y, "note"), -104);
        Checks.due("rows stay with a wrong text", y.many(2), 1);
    }

    private static void faults() {
        Checks.fault(";", 0);
        Checks.fault("  x", 2);
        Checks.fault("notes 0:1;", 0);
        Checks.fault("notez 0:1;", 0);
        Checks.fault("dote 0:1;", 0);
        Checks.fault("note 0:1;eote 0:1;", 9);
        Checks.fault("note 0:1,2,3,4,5,6,;", 19);
        Checks.fault("not 0:1;", 0);
        Checks.fault("Note 0:1;", 0);
        Checks.fault("at 0;", 0);
        Checks.fault("7;", 0);
        Checks.fault("note\t0:1;", 4);
        Checks.fault("note 3:1;", 5);
        Checks.fault("note 000:1;", 5);
        Checks.fault("note :1;", 5);
        Checks.fault("note 0 a 1:1;", 7);
        Checks.fault("note 0 at :1;", 10);
        Checks.fault("note 0 at 7:1;", 10);
        Checks.fault("note 0 at 1 at 1:1;", 12);
        Checks.fault("note 0 1;", 7);
        Checks.fault("note 0: ;", 8);
        Checks.fault("note 0:16;", 7);
        Checks.fault("note 0:1,;", 9);
        Checks.fault("note 0:1 2;", 9);
        Checks.fault("note 0:1,2,3,4,5,6,7;", 19);
        Checks.fault("note 0:1,2,3,4,5,6,", 19);
        Checks.fault("note 0:1,2,3,4,5,6;  x", 21);
        Checks.fault("note", 4);
        Checks.fault("note 0  ", 8);
        Checks.fault("note 0:1", 8);
        Checks.fault("note 0:1;note 0 at", 18);
        Checks.fault("note 0:1;evening 3 2 2;", 17);
        Checks.fault("evening 0 1 2;", 10);
        Checks.fault("evening 0 17 17;", 10);
        Checks.fault("evening 0 5 4;", 12);
        Checks.fault("evening 0 5 17;", 12);
        Checks.fault("evening 0 5 5", 13);
        Checks.fault("evening 0 5 5 5;", 14);
        Checks.fault("same 0 0;note 0:1;", 5);
        Checks.fault("note 0:1;same 0 1;", 16);
        Checks.fault("note 0:1;more 0;", 15);
        Checks.fault("note 0:1;sum 0 0 1;", 17);
        Checks.fault("note 0:1;sum 0 0;", 16);
        Checks.fault("note 0:1;same 0 0 0;", 18);
        Checks.fault("note 0:1;whole 1 1;", 15);
        Checks.fault("note 0:1;whole 0 0;", 17);
        Checks.fault("note 0:1;whole 0 100;", 17);
        Checks.fault("note0:1;note0:1;note0:1;note0:1;note0:1;note0:1; debt 9", 49);
        Checks.fault("note0:1;same0 0;same0 0;same0 0;same0 0;same0 0;same0 0;evening 0 2 2;sum x", 70);
        Checks.due("numbers part from names", Checks.tell(new RoomNumbers(), "note0at1:1;same0 0;"), 1);
        Checks.due("as long as they go", Checks.tell(new RoomNumbers(), "note 0:1;same 00;"), -116);
        Checks.due("a byte above 127", Checks.tell(new RoomNumbers(), "note 0:1;" + (char) 238), -109);
    }

    private static void evening() {
        RoomNumbers x = new RoomNumbers();
        Checks.due("evening", x.evening(0, 2, 16), 1);
        Checks.due("evening", x.evening(2, 16, 16), 1);
        int[][] bad = {{-1, 2, 3}, {3, 2, 3}, {0, 1, 3}, {0, 3, 17}, {0, 5, 4}, {0, 17, 17}, {0, 1, 1}};
        for (int[] b : bad) Checks.due("bad evening", x.evening(b[0], b[1], b[2]), RoomNumbers.BAD);
        Checks.due("stays", x.eveningOf(0, 1), 16);
        Checks.due("least", x.eveningOf(2, 0), 16);
        Checks.due("worlds", x.worlds(), 15 * 15);
        x.note(0, 1, 0, 1, 0);
        x.note(0, 2, 0, 1, 0);
        x.note(0, 1, 0, 1, 0);
        Checks.due("notes of an evening", x.eveningOf(1, 2), 5);
        Checks.due("bad what", x.eveningOf(1, 3), RoomNumbers.BAD);
        Checks.due("bad what", x.eveningOf(1, -1), RoomNumbers.BAD);
        Checks.due("bad evening", x.eveningOf(3, 0), RoomNumbers.BAD);
        Checks.due("bad evening", x.eveningOf(-1, 0), RoomNumbers.BAD);
    }

    private static void note() {
        RoomNumbers x = new RoomNumbers();
        int[][] bad = {{-1, 0, 0, 1, 0}, {6, 0, 0, 1, 0}, {0, -1, 0, 1, 0}, {0, 3, 0, 1, 0}, {0, 0, -1, 1, 0},
            {0, 0, 7, 1, 0}, {0, 0, 0, 0, 0}, {0, 0, 0, 7, 0}, {0, 0, 0, 1, -1}};
        for (int[] b : bad) Checks.due("bad note", x.note(b[0], b[1], b[2], b[3], b[4]), RoomNumbers.BAD);
        Checks.due("higher ones count nothing", x.note(5, 2, 6, 2, Integer.MAX_VALUE - 15 + 3), 0);
        Checks.due("first sign", x.noteOf(0, 10), 15);
        Checks.due("last sign", x.noteOf(0, 11), 3);
        Checks.due("no such sign", x.noteOf(0, 12), RoomNumbers.BAD);
        Checks.due("kind", x.noteOf(0, 0), 5);
        Checks.due("evening", x.noteOf(0, 1), 2);
        Checks.due("a", x.noteOf(0, 2), 6);
        Checks.due("signs", x.noteOf(0, 3), 2);
        for (int what : new int[] {-1, 4, 9, 16, Integer.MAX_VALUE, Integer.MIN_VALUE}) {
            Checks.due("bad what", x.noteOf(0, what), RoomNumbers.BAD);
        }
        Checks.due("bad note", x.noteOf(1, 0), RoomNumbers.BAD);
        Checks.due("bad note", x.noteOf(-1, 0), RoomNumbers.BAD);
        for (int i = 1; i < 6; i++) Checks.due("note", x.note(i, 0, 0, 6, 0x123456), i);
        Checks.due("first of six", x.noteOf(5, 10), 1);
        Checks.due("last of six", x.noteOf(5, 15), 6);
        Checks.due("a seventh", x.note(0, 0, 0, 1, 0), RoomNumbers.FULL);
        Checks.due("bad ahead of full", x.note(0, 0, 0, 1, -1), RoomNumbers.BAD);
    }

    private static void alterAndMove() {
        RoomNumbers x = Checks.told("note 0:1,2; note 1:3;");
        Checks.due("alter", x.alter(0, 1, 15), 2);
        Checks.due("alter", x.alter(0, 1, 0), 15);
        Checks.due("alter", x.alter(0, 0, 1), 1);
        int[][] bad = {{2, 0, 0}, {-1, 0, 0}, {0, 2, 0}, {0, -1, 0}, {0, 0, 16}, {0, 0, -1}};
        for (int[] b : bad) Checks.due("bad alter", x.alter(b[0], b[1], b[2]), RoomNumbers.BAD);
        Checks.due("worth", x.worth(0, 5), 5);
        Checks.due("worlds", x.worlds(), 15 * 13 * 15);
        Checks.due("move", x.move(1, 2), 1);
        Checks.due("move", x.move(1, 0), 2);
        Checks.due("worlds", x.worlds(), 13 * 15 * 15);
        Checks.due("notes", x.eveningOf(0, 2), 3);
        Checks.due("bad move", x.move(2, 0), RoomNumbers.BAD);
        Checks.due("bad move", x.move(-1, 0), RoomNumbers.BAD);
        Checks.due("bad move", x.move(0, 3), RoomNumbers.BAD);
        Checks.due("bad move", x.move(0, -1), RoomNumbers.BAD);
    }

    private static void worth() {
        RoomNumbers x = Checks.told("note 0:15,15,15,15,15,15; strokes 0:9,9,9; broken 0 at 2:1,2,3,4;"
                + "left 0 at 2:1,2,3,4; turned 0:1,2,3; debt 0:0,0,0,0;");
        Checks.due("note by 16", x.worth(0, 16), 16777215);
        Checks.due("note by 2", x.worth(0, 2), 15 * 63);
        Checks.due("strokes", x.worth(1, 2), 3);
        Checks.due("broken", x.worth(2, 10), (12 * 11 + 3) * 11 + 4);
        Checks.due("left", x.worth(3, 10), (12 * 9 + 3) * 9 + 4);
        Checks.due("left by 2", x.worth(3, 2), 4 + 3 + 4);
        Checks.due("turned", x.worth(4, 10), 321);
        Checks.due("debt", x.worth(5, 7), -4);
        long[][] bad = {{6, 5}, {-1, 5}, {0, 1}, {0, 17}, {0, 0}};
        for (long[] b : bad) Checks.due("bad worth", x.worth((int) b[0], (int) b[1]), RoomNumbers.NO);
        RoomNumbers y = Checks.told("broken 0 at 6:1,2; broken 0:1,2; left 0:1,2; broken 0:15,15,15,15,15,15;");
        Checks.due("all ahead", y.worth(0, 10), 12);
        Checks.due("none ahead", y.worth(1, 10), 13);
        Checks.due("none ahead", y.worth(2, 10), 11);
        Checks.due("the greatest", y.worth(3, 16), 22628970);
    }

    private static void can() {
        RoomNumbers x = Checks.told("note 0:1,5; strokes 0:1,1; broken 0 at 1:4,5; left 0 at 1:4,4; turned 0:15; debt 0:1,0;");
        Checks.due("note", x.can(0), ALL & -(1 << 6));
        Checks.due("strokes", x.can(1), ALL);
        Checks.due("broken", x.can(2), ALL & -(1 << 5));
        Checks.due("left", x.can(3), ALL & -(1 << 6));
        Checks.due("turned", x.can(4), 1 << 16);
        Checks.due("debt", x.can(5), 0);
        Checks.due("bad", x.can(6), RoomNumbers.BAD);
        Checks.due("bad", x.can(-1), RoomNumbers.BAD);
        x.evening(0, 2, 3);
        Checks.due("whatever its evening", x.can(0), ALL & -(1 << 6));
        RoomNumbers y = Checks.told("left 0:0; left 0:15; broken 0:15; broken 0 at 1:15,15;");
        Checks.due("left 0", y.can(0), ALL);
        Checks.due("left 15", y.can(1), 0);
        Checks.due("broken 15", y.can(2), ALL & -(1 << 15));
        Checks.due("broken 15, 15", y.can(3), 1 << 16);
    }
}
