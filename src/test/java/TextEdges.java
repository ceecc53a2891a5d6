/** The edges of promise 3: texts that are just right and just wrong; a wrong one uses up the tape and changes nothing else. */
final class TextEdges {
    private static final int TERMS = Sentences.TERMS;
    private static final String SIX_NOTES = "note0:1;note0:1;note0:1;note0:1;note0:1;note0:1;";
    private static final String SIX_LINES = "same0 0;more0 0;sum0 0 0;whole0 1;same0 0;more0 0;";
    private static final String BLANKS = " ".repeat(200);
    private static final Scene NEW = Scene.fresh();
    private static final Scene LIVED = Scene.lived();

    static void all() {
        counts();
        evenings();
        numbers();
        signs();
        a();
        leastAndMost();
        linesOfNotes();
        wholeNumbers();
        sixAtMost();
        bytes();
        names();
        ends();
        prefixes();
        wholeTape();
        byItAlone();
    }

    private static Scene fine(String text, int notes) {
        return LIVED.fed(text).then(notes, "valley");
    }

    private static void fault(String text, int place) {
        LIVED.fed(text).then(-100 - place, "valley").same(LIVED);
    }

    private static void counts() {
        Sentences.says(3, "THE TAPE becomes THE VALLEY: how many NOTES; -100 less its FAULT.");
        fine("", 0);
        fine(" ", 0);
        fine("evening 0 2 2;", 0);
        String text = "";
        for (int n = 1; n <= 6; n++) {
            text += "debt 0:1;";
            fine(text, n).then(n, "many", 0);
        }
        fault(";", 0);
        fault(" ;", 1);
        NEW.then(0, "valley").same(NEW);
    }

    private static void evenings() {
        Sentences.says(TERMS, "EVENINGS 0 to 2");
        for (int e = 0; e <= 2; e++) {
            fine("note " + e + ":1;", 1).then(e, "noteOf", 0, 1);
            fine("evening " + e + " 5 6;", 0).then(6, "eveningOf", e, 1);
        }
        for (String e : new String[] {"3", "03", "9", "10", "99"}) {
            fault("note " + e + ":1;", 5);
            fault("evening " + e + " 5 6;", 8);
        }
    }

    private static void numbers() {
        Sentences.says(TERMS, "NUMBERS rows of digits (1 or 2), both as long as they go");
        Sentences.says(TERMS, "(a NUMBER out of range, of more digits;");
        fine("note 1:1;", 1);
        fine("note 01:01;", 1);
        fault("note 001:1;", 5);
        fault("note 1:001;", 7);
        fault("note 0 at 001:1;", 10);
        fault("evening 000 2 3;", 8);
        fault("evening 0 002 3;", 10);
        fault("evening 0 2 003;", 12);
        fault("note 0:1;same 000 0;", 14);
        fault("note 0:1;same 0 000;", 16);
        fault("note 0:1;sum 0 0 000;", 17);
        fault("note 0:1;whole 0 001;", 17);
        fault("note 0:1;same 00;", 16);
        fault("note 0:1;same 0 00 0;", 19);
        fault("note 99999999999999999999:1;", 5);
        fault("note 4294967296:1;", 5);
        fault("note -1:1;", 5);
    }

    private static void signs() {
        Sentences.says(TERMS, "SIGNS: 1 to 6 numbers 0 to 15, the greatest place first; A (0 to 6).");
        Sentences.says(TERMS, "a seventh SIGN's NUMBER;");
        String text = "note 0:";
        for (int n = 1; n <= 6; n++) {
            text += (n == 1 ? "" : ",") + (n + 9);
            Scene told = fine(text + ";", 1).then(n, "noteOf", 0, 3);
            for (int i = 0; i < n; i++) told = told.then(i + 10, "noteOf", 0, 10 + i);
            told.then(Scene.BAD, "noteOf", 0, 10 + n);
        }
        for (int sign = 0; sign <= 15; sign++) fine("note 0:" + sign + ";", 1).then(sign, "noteOf", 0, 10);
        fault("note 0:16;", 7);
        fault("note 0:99;", 7);
        fault("note 0:1,16;", 9);
        fault("note 0:;", 7);
        fault("note 0:,1;", 7);
        fault("note 0:1,;", 9);
        fault("note 0:1,,1;", 9);
        fault("note 0:1 1;", 9);
        fault("note 0:1,2,3,4,5,16;", 17);
        fault("note 0:1,2,3,4,5,6,7;", 19);
        fault("note 0:1,2,3,4,5,6, 7;", 20);
        fault("note 0:1,2,3,4,5,6,99;", 19);
        fault("note 0:1,2,3,4,5,6,;", 19);
        fault("note 0:1,2,3,4,5,6,", 19);
        fault("note 0:1,2,3,4,5,6 7;", 19);
    }

    private static void a() {
        Sentences.says(TERMS, "EVENING, A (0 if not told), SIGNS.");
        fine("broken 0:1;", 1).then(0, "noteOf", 0, 2);
        for (int a = 0; a <= 6; a++) {
            fine("broken 0 at " + a + ":1;", 1).then(a, "noteOf", 0, 2);
            fine("note 0 at 0" + a + ":1;", 1).then(a, "noteOf", 0, 2);
        }
        fault("broken 0 at 7:1;", 12);
        fault("broken 0 at 16:1;", 12);
        fault("broken 0 at :1;", 12);
        fault("broken 0 at 1 2:1;", 14);
        fault("broken 0 at 1 at 1:1;", 14);
        fault("broken 0 a 1:1;", 9);
        fault("broken 0 att 1:1;", 9);
        fault("broken at 1:1;", 7);
    }

    private static void leastAndMost() {
        Sentences.says(TERMS, "on each there were from LEAST to MOST people (2 to 16 each;");
        Sentences.says(TERMS, "evening: LEAST, MOST.");
        Sentences.says(TERMS, "MOST below LEAST;");
        int[][] right = {{2, 2}, {2, 16}, {16, 16}, {9, 9}, {9, 10}};
        for (int[] r : right) {
            fine("evening 1 " + r[0] + " " + r[1] + ";", 0).then(r[0], "eveningOf", 1, 0);
            fine("evening 1 " + r[0] + " " + r[1] + ";", 0).then(r[1], "eveningOf", 1, 1);
        }
        fault("evening 1 1 2;", 10);
        fault("evening 1 0 2;", 10);
        fault("evening 1 17 17;", 10);
        fault("evening 1 2 17;", 12);
        fault("evening 1 2 1;", 12);
        fault("evening 1 9 8;", 12);
        fault("evening 1 16 15;", 13);
        fault("evening 1 16 1;", 13);
        fault("evening 1 2;", 11);
        fault("evening 1 2,3;", 11);
        fault("evening 1 2 3 4;", 14);
    }

    private static void linesOfNotes() {
        Sentences.says(TERMS, "same, more, sum: NOTES told ahead; whole: a NOTE told ahead, a number.");
        String[] names = {"same", "more"};
        for (String name : names) {
            fine("note 0:1;note 0:1;" + name + " 1 1;", 2).then(1, "lineOf", 0, 1).then(1, "lineOf", 0, 2);
            fault(name + " 0 0;note 0:1;", 5);
            fault("note 0:1;" + name + " 1 0;note 0:1;", 14);
            fault("note 0:1;" + name + " 0 1;note 0:1;", 16);
            fault("note 0:1;" + name + " 0;", 15);
            fault("note 0:1;" + name + ";", 13);
            fault("note 0:1;" + name + " 0 0 0;", 18);
            fault("note 0:1;" + name + " 0,0;", 15);
        }
        fine("note 0:1;note 0:1;sum 1 1 1;", 2).then(1, "lineOf", 0, 3);
        fault("sum 0 0 0;note 0:1;", 4);
        fault("note 0:1;sum 1 0 0;", 13);
        fault("note 0:1;sum 0 1 0;", 15);
        fault("note 0:1;sum 0 0 1;", 17);
        fault("note 0:1;sum 0 0;", 16);
        fault("note 0:1;sum 0 0 0 0;", 19);
        fault("whole 0 1;", 6);
        fault("note 0:1;whole 1 1;", 15);
        fault("note 0:1;whole 0;", 16);
        fault("note 0:1;whole 0 1 1;", 19);
        fine(SIX_NOTES + "same 5 5;", 6).then(5, "lineOf", 0, 1);
        fault(SIX_NOTES + "same 6 5;", 53);
        fault(SIX_NOTES + "same 5 6;", 55);
    }

    private static void wholeNumbers() {
        Sentences.says(TERMS, "3 whole (x is worth a multiple of z, a number 1 to 99; y counts nothing); x, y and z are NOTES.");
        for (int z : new int[] {1, 2, 9, 10, 98, 99}) fine("note 0:1;whole 0 " + z + ";", 1).then(z, "lineOf", 0, 3).then(0, "lineOf", 0, 2);
        fine("note 0:1;whole 0 01;", 1).then(1, "lineOf", 0, 3);
        fault("note 0:1;whole 0 0;", 17);
        fault("note 0:1;whole 0 00;", 17);
        fault("note 0:1;whole 0 100;", 17);
        fault("note 0:1;whole 0 099;", 17);
    }

    private static void sixAtMost() {
        Sentences.says(TERMS, "the first NAME of a seventh NOTE or LINE)");
        Scene six = fine(SIX_NOTES + SIX_LINES, 6);
        six.then(6, "many", 0).then(6, "many", 1);
        for (String kind : new String[] {"note", "strokes", "broken", "left", "turned", "debt"}) {
            fault(SIX_NOTES + kind + "0:1;", 48);
            fault(SIX_NOTES + " " + kind, 49);
        }
        for (String sort : new String[] {"same0 0;", "more0 0;", "sum0 0 0;", "whole0 1;", "same", "more 9", "sum?", "whole"}) {
            fault("note0:1;" + SIX_LINES + sort, 8 + SIX_LINES.length());
        }
        fine("note0:1;" + SIX_LINES + "evening 0 2 2;note0:1;", 2).then(6, "many", 1);
        fine(SIX_NOTES + "evening 0 2 2;" + SIX_LINES, 6).then(6, "many", 1);
        fault(SIX_NOTES + SIX_LINES + "notes", 48 + SIX_LINES.length());
    }

    private static void bytes() {
        Sentences.says(TERMS, "FAULT: the place (from 0) of the first byte of the first NAME, NUMBER or other byte that can't stand there or is not as told");
        Sentences.says(TERMS, "blanks (32) part them, and stand elsewhere as one likes.");
        for (int b = 0; b < 256; b++) {
            String sign = String.valueOf((char) b);
            boolean letter = b >= 'a' && b <= 'z';
            boolean digit = b >= '0' && b <= '9';
            if (b == ' ') fine("note 0:1;" + sign, 1);
            else fault("note 0:1;" + sign, 9);
            if (b == ' ') fine("note" + sign + "0:1;", 1);
            else if (digit) NEW.fed("note" + sign + "0:1;").then(b == '0' ? 1 : -104, "valley");
            else fault("note" + sign + "0:1;", letter ? 0 : 4);
            if (b == ' ' || b == '0') NEW.fed("note 0:0" + sign + ";").then(1, "valley");
            else if (!digit) fault("note 0:1" + sign + ";", b == ',' ? 9 : b == ';' ? 9 : 8);
        }
        fine("  note  0  at  1  :  1  ,  2  ;  same  0  0  ;  ", 1);
        fine("note0at1:1,2;same0 0;", 1);
        fault("no te 0:1;", 0);
        fault("note 0:1 5;", 9);
        fault("note 0:1; ; ", 10);
    }

    private static void names() {
        Sentences.says(TERMS, "TEXT: { KIND N [ at N ] : N { , N } ; | evening N N N ; | same N N ; | more N N ; | sum N N N ; | whole N N ; }");
        Sentences.says(TERMS, "KIND (note | strokes | broken | left | turned | debt):");
        Sentences.says(TERMS, "NAMES are rows of letters a to z,");
        String[] names = {"note 0:1;", "strokes 0:1;", "broken 0:1;", "left 0:1;", "turned 0:1;", "debt 0:1;"};
        for (int kind = 0; kind < 6; kind++) {
            fine(names[kind], 1).then(kind, "noteOf", 0, 0);
            fault("x" + names[kind], 0);
            fault(names[kind].substring(1), 0);
            fault("x" + names[kind].substring(1), 0);
            fault(names[kind].replaceFirst(". ", "z "), 0);
            fault(names[kind].replace(" ", "x "), 0);
            fault(names[kind].replaceFirst(". ", " "), 0);
            fault(names[kind].substring(0, 1).toUpperCase() + names[kind].substring(1), 0);
        }
        for (String line : new String[] {"same 0 0;", "more 0 0;", "sum 0 0 0;", "whole 0 1;", "evening 0 2 2;"}) {
            fine("note0:1;" + line, 1);
            fault("note0:1;a" + line, 8);
            fault("note0:1;" + line.substring(1), 8);
            fault("note0:1;z" + line.substring(1), 8);
            fault("note0:1;" + line.replaceFirst(". ", "z "), 8);
            fault("note0:1;" + line.replaceFirst(" ", "z "), 8);
            fault("note0:1;" + line.replaceFirst(". ", " "), 8);
        }
        fault("at 1;", 0);
        fault("at", 0);
        fault("notenote 0:1;", 0);
        fault("note note 0:1;", 5);
        fault("note 0 same 1:1;", 7);
    }

    private static void ends() {
        Sentences.says(TERMS, "or the end (how many bytes there are), if more must come.");
        String[] texts = {"note", "note 0", "note 0 at", "note 0 at 1", "note 0 at 1:", "note 0:1", "note 0:1,", "note 0:1,2",
            "evening", "evening 0", "evening 0 2", "evening 0 2 2", "note 0:1;same", "note 0:1;same 0", "note 0:1;same 0 0",
            "note 0:1;sum 0 0", "note 0:1;sum 0 0 0", "note 0:1;whole", "note 0:1;whole 0", "note 0:1;whole 0 1"};
        for (String text : texts) {
            for (int blanks = 0; blanks <= 3; blanks++) fault(text + BLANKS.substring(0, blanks), text.length() + blanks);
        }
    }

    /** Every beginning of a right text: it ends well, within a name, or where more must come. */
    private static void prefixes() {
        String text = " note 0 at 1:2,15; strokes1: 1 ;more 0 1;sum 0 1 0 ;whole 1 99;evening 2 10 16; left 2:00,6;same 2 0;  ";
        for (int length = 0; length <= text.length(); length++) {
            String part = text.substring(0, length);
            int start = length;
            while (start > 0 && Character.isLetter(text.charAt(start - 1))) start--;
            boolean cutName = start < length && length < text.length() && Character.isLetter(text.charAt(length));
            String bare = part.trim();
            boolean whole = bare.isEmpty() || bare.endsWith(";");
            if (whole) fine(part, (int) (part.chars().filter(ch -> ch == ':').count()));
            else if (cutName) fault(part, start);
            // LEAST and MOST of 10 and 16, cut to 1, are out of range.
            else fault(part, part.endsWith(" 2 1") || part.endsWith(" 10 1") ? length - 1 : length);
        }
    }

    private static void wholeTape() {
        Sentences.says(TERMS, "THE TAPE takes bytes, 200 at most");
        LIVED.fed(BLANKS).then(0, "valley");
        LIVED.fed(BLANKS.substring(8) + "note0:1;").then(1, "valley");
        LIVED.fed(BLANKS.substring(7) + "note0:1").then(-300, "valley").same(LIVED);
        LIVED.fed(BLANKS.substring(4) + "note").then(-300, "valley").same(LIVED);
        LIVED.fed(BLANKS.substring(3) + "not").then(-297, "valley").same(LIVED);
        LIVED.fed(BLANKS.substring(1) + ";").then(-299, "valley").same(LIVED);
        LIVED.fed(BLANKS.substring(1)).then(0, "valley");
        NEW.fed("note0:1;").then(1, "valley").fed("note0").then(-105, "valley").fed("note0:1;").then(1, "valley");
    }

    private static void byItAlone() {
        Sentences.says(3, "There are no ROWS then; z stays.");
        Scene proved = LIVED.then(3, "many", 2);
        proved.then(0, "valley").then(0, "many", 2).then(Scene.NO, "row", 0, 0).then(-5, "seed", 0);
        proved.fed("note 0:1;").then(1, "valley").then(0, "many", 2).then(222, "judge").then(-5, "seed", 0);
        proved.fed("note 0:1").then(-108, "valley").then(3, "many", 2).then(-5, "seed", 0);
        Sentences.says(TERMS, "It is THE VALLEY: NOTES, LINES by it alone, EVENINGS not told as at first.");
        Scene told = proved.fed("evening 0 4 5;note 2:1;").then(1, "valley");
        told.then(1, "many", 0).then(0, "many", 1).then(Scene.BAD, "noteOf", 1, 0);
        told.then(4, "eveningOf", 0, 0).then(5, "eveningOf", 0, 1).then(2, "eveningOf", 1, 0).then(16, "eveningOf", 1, 1);
        told.then(0, "eveningOf", 0, 2).then(1, "eveningOf", 2, 2);
        told.then(3, "again").then(3, "eveningOf", 1, 0);
        Sentences.says(TERMS, "such a call changes nothing (but that THE TAPE is used up by valley())");
        LIVED.fed("note 0:1;x").then(-109, "valley").then(0, "many", 3).then(0, "valley");
        LIVED.fed("evening 0 4 5;note 1:2;same 0 0;same 0 1;").then(-100 - 39, "valley").same(LIVED);
    }
}
