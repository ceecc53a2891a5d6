/** Promises 43 and 44: keep, again. */
public final class KeptTest {
    public static void main(String[] args) {
        keptAndAgain();
        whatIsNotKept();
        Checks.finish();
    }

    private static void keptAndAgain() {
        RoomNumbers x = Checks.told("evening 0 3 7; note 0:1,2; left 1 at 1:2,1; more 0 1;");
        Checks.due("nothing is kept", x.again(), RoomNumbers.NONE);
        x.seed(42);
        int worlds = x.worlds();
        Checks.due("keep", x.keep(), 1);
        for (int round = 0; round < 2; round++) {
            x.seed(1);
            x.evening(0, 16, 16);
            x.alter(0, 0, 9);
            x.move(1, 2);
            x.strike(0);
            x.note(0, 0, 0, 1, 1);
            x.line(0, 2, 2, 0);
            x.line(0, 2, 2, 0);
            Checks.due("again", x.again(), 2);
            Checks.due("evening", x.eveningOf(0, 0), 3);
            Checks.due("evening", x.eveningOf(0, 1), 7);
            Checks.due("sign", x.noteOf(0, 10), 1);
            Checks.due("kind", x.noteOf(1, 0), 3);
            Checks.due("a", x.noteOf(1, 2), 1);
            Checks.due("evening of the note", x.noteOf(1, 1), 1);
            Checks.due("lines", x.many(1), 1);
            Checks.due("line", x.lineOf(0, 0), 1);
            Checks.due("z", x.seed(3), 42);
            Checks.due("worlds", x.worlds(), worlds);
        }
        x.alter(0, 1, 0);
        x.keep();
        Checks.tell(x, "");
        Checks.due("no notes", x.many(0), 0);
        Checks.due("again", x.again(), 2);
        Checks.due("the latest", x.noteOf(0, 11), 0);
        Checks.due("the latest", x.seed(0), 3);
    }

    private static void whatIsNotKept() {
        RoomNumbers x = new RoomNumbers();
        Checks.due("an empty valley is kept, too", x.keep(), 1);
        x.note(0, 0, 5, 1, 1);
        x.prove(0);
        x.feed(0x20, 1);
        x.sheet(0, 0, 3);
        x.shelf(0, 0, 0);
        x.shelf(1, 1, 0);
        x.act(0, 0, 1);
        Checks.due("again", x.again(), 0);
        Checks.due("rows stay", x.many(2), 1);
        Checks.due("bytes stay", x.many(3), 1);
        Checks.due("the trace stays", x.many(4), 1);
        Checks.due("sheets stay", x.item(0, 0, 2), 0);
        Checks.due("shelves stay", x.taken(1, 10), 3);
        Checks.due("the note is gone", x.taken(0, 0), -11);
    }
}
