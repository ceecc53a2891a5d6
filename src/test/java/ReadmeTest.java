import java.lang.reflect.Method;
import java.lang.reflect.Modifier;
import java.nio.file.Files;
import java.nio.file.Path;
import java.util.Set;
import java.util.TreeSet;
import java.util.regex.Matcher;
import java.util.regex.Pattern;
import java.util.stream.Collectors;
import java.util.stream.Stream;

/** README.md against the class and the tests as they stand. */
public final class ReadmeTest {
    private static String readme = "";

    public static void main(String[] args) throws Exception {
        readme = Files.readString(Path.of("README.md"));
        example();
        text();
        callsTable();
        testsTable();
        library();
        Checks.finish();
    }

    private static void says(String words) {
        Checks.due("whether README.md says: " + words, readme.contains(words) ? 1 : 0, 1);
    }

    private static void same(String what, Set<String> told, Set<String> there) {
        Checks.due(what + " told " + told + ", there are " + there, told.equals(there) ? 1 : 0, 1);
    }

    /** The lines of the example, called here as they stand there. */
    private static void example() {
        says("RoomNumbers room = new RoomNumbers();\n");
        says("\nint x = room.note(0, 0, 0, 2, 0x21); ");
        says("\nint y = room.note(0, 1, 0, 2, 0x30); ");
        says("\nroom.line(0, x, y, 0); ");
        says("\nint n = room.worlds();                 // so many ways that can be: 60\n");
        says("\nint b = room.world(0, 1);              // the base of evening 1 in the first of them: 5\n");
        RoomNumbers room = new RoomNumbers();
        int x = room.note(0, 0, 0, 2, 0x21);
        int y = room.note(0, 1, 0, 2, 0x30);
        Checks.due("line of the example", room.line(0, x, y, 0), 0);
        Checks.due("worlds of the example", room.worlds(), 60);
        Checks.due("world(0, 1) of the example", room.world(0, 1), 5);
    }

    private static void text() {
        String text = "note 0:2,1; note 1:3,0; same 0 1;";
        says("`" + text + "`");
        RoomNumbers room = Checks.told(text);
        Checks.due("worlds of the text", room.worlds(), 60);
        Checks.due("world(0, 1) of the text", room.world(0, 1), 5);
    }

    private static void callsTable() {
        Set<String> told = new TreeSet<>();
        Matcher row = Pattern.compile("(?m)^\\| ((?:`\\w+` )+)\\| ").matcher(table("| calls |"));
        while (row.find()) {
            for (String name : row.group(1).trim().split(" ")) {
                Checks.due("told once: " + name, told.add(name.replace("`", "")) ? 1 : 0, 1);
            }
        }
        Set<String> there = new TreeSet<>();
        for (Method m : RoomNumbers.class.getDeclaredMethods()) {
            if (Modifier.isPublic(m.getModifiers())) there.add(m.getName());
        }
        same("calls", told, there);
    }

    private static void testsTable() throws Exception {
        Set<String> told = new TreeSet<>();
        Matcher row = Pattern.compile("(?m)^\\| `(\\w+)` \\| ").matcher(table("| test |"));
        while (row.find()) told.add(row.group(1));
        Set<String> there;
        try (Stream<Path> files = Files.list(Path.of("src/test/java"))) {
            there = files.map(f -> f.getFileName().toString().replace(".java", "")).collect(Collectors.toCollection(TreeSet::new));
        }
        same("tests", told, there.stream().filter(name -> name.endsWith("Test")).collect(Collectors.toCollection(TreeSet::new)));
        for (String name : there) says("`" + name + "`");
    }

    private static void library() throws Exception {
        says("without any\nlibrary beside `java.util.Arrays`");
        Matcher imports = Pattern.compile("(?m)^import ([\\w.]+);").matcher(Files.readString(Path.of("src/main/java/RoomNumbers.java")));
        while (imports.find()) Checks.due("README.md names " + imports.group(1), imports.group(1).equals("java.util.Arrays") ? 1 : 0, 1);
    }

    /** The table of a heading, to the first line that is empty. */
    private static String table(String heading) {
        int at = readme.indexOf(heading);
        Checks.due("README.md has a table " + heading, at >= 0 ? 1 : 0, 1);
        return at < 0 ? "" : readme.substring(at).split("\n\n")[0];
    }
}
