/** What the tests share: comparing an answer with the one that is due, and feeding a text. */
final class Checks {
    private static int wrong = 0;
    private static int looked = 0;

    private Checks() {
    }

    static void due(String call, long got, long want) {
        looked++;
        if (got != want) {
            wrong++;
            System.out.println(call + " answered " + got + ", due is " + want);
        }
    }

    static void feedText(RoomNumbers room, String text) {
        int fed = 0;
        while (fed < text.length()) {
            int n = Math.min(8, text.length() - fed);
            long eight = 0;
            for (int i = 0; i < n; i++) eight |= (long) (text.charAt(fed + i) & 255) << (8 * i);
            room.feed(eight, n);
            fed += n;
        }
    }

    static int tell(RoomNumbers room, String text) {
        feedText(room, text);
        return room.valley();
    }

    /** A new object whose valley is told by a text that must be right. */
    static RoomNumbers told(String text) {
        RoomNumbers room = new RoomNumbers();
        int got = tell(room, text);
        if (got < 0) due("valley() of '" + text + "'", got, 0);
        return room;
    }

    /** A new object of which a text has the fault that is due; the valley stays as it was. */
    static void fault(String text, int place) {
        RoomNumbers room = told("evening 1 3 4; note 1: 2; whole 0 2;");
        due("valley() of '" + text + "'", tell(room, text), -100 - place);
        due("bytes of the tape after '" + text + "'", room.many(3), 0);
        due("notes after '" + text + "'", room.many(0), 1);
        due("lines after '" + text + "'", room.many(1), 1);
        due("most after '" + text + "'", room.eveningOf(1, 1), 4);
    }

    static void finish() {
        System.out.println(looked + " answers looked at, " + wrong + " wrong");
        if (looked == 0 || wrong != 0) System.exit(1);
    }
}
