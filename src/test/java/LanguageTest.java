import java.lang.reflect.Constructor;
import java.lang.reflect.Field;
import java.lang.reflect.Method;
import java.lang.reflect.Modifier;
import java.nio.file.Files;
import java.nio.file.Path;
import java.util.ArrayList;
import java.util.Arrays;
import java.util.Comparator;
import java.util.List;
import java.util.Set;
import java.util.TreeSet;
import java.util.regex.Matcher;
import java.util.regex.Pattern;

/** The face that the document tells, and those rules of LANGUAGE.md that can be seen from outside or in the text. */
public final class LanguageTest {
    private static final String FACE = "int feed(long,int) int valley() int evening(int,int,int) int eveningOf(int,int)"
            + " int note(int,int,int,int,int) int noteOf(int,int) int alter(int,int,int) int move(int,int)"
            + " long worth(int,int) int can(int) int line(int,int,int,int) int lineOf(int,int) int strike(int)"
            + " int worlds() int world(int,int) int may(int) int sure(int) int holds(int,int,int,int) int proof()"
            + " int mended(int) int which(int) long gain(int,int,int) int written(int,int,int) int alike(int,int)"
            + " int shortest(int,int) int add(int,int) int seed(int) int guess() int prove(int) long row(int,int)"
            + " long alterRow(int,int,long) int judge() int signs(int,int,int,int) int sheet(int,int,int)"
            + " int put(int,int,int) int item(int,int,int) int shelf(int,int,int) int taken(int,int) int act(int,int,int)"
            + " int trace(int) int many(int) int keep() int again()";

    public static void main(String[] args) throws Exception {
        face();
        names();
        sizes();
        words(Files.readString(Path.of("src/main/java/RoomNumbers.java")));
        Checks.finish();
    }

    private static void yes(String what, boolean is) {
        Checks.due(what, is ? 1 : 0, 1);
    }

    private static void face() {
        Class<?> c = RoomNumbers.class;
        yes("public and final", Modifier.isPublic(c.getModifiers()) && Modifier.isFinal(c.getModifiers()));
        Constructor<?>[] makers = c.getDeclaredConstructors();
        yes("one public constructor", makers.length == 1 && Modifier.isPublic(makers[0].getModifiers()) && makers[0].getParameterCount() == 0);
        List<String> seen = new ArrayList<>();
        for (Method m : c.getDeclaredMethods()) {
            if (Modifier.isPrivate(m.getModifiers())) continue;
            StringBuilder b = new StringBuilder(m.getReturnType().getName()).append(' ').append(m.getName()).append('(');
            for (Class<?> p : m.getParameterTypes()) b.append(b.charAt(b.length() - 1) == '(' ? "" : ",").append(p.getName());
            seen.add(b.append(')').toString());
            yes(m.getName() + " is public", Modifier.isPublic(m.getModifiers()) && !Modifier.isStatic(m.getModifiers()));
        }
        List<String> due = new ArrayList<>(Arrays.asList(FACE.split("(?<=\\)) ")));
        seen.sort(Comparator.naturalOrder());
        due.sort(Comparator.naturalOrder());
        yes("the methods " + seen, seen.equals(due));
        Set<String> constants = new TreeSet<>();
        for (Field f : c.getDeclaredFields()) {
            if (!Modifier.isPrivate(f.getModifiers())) constants.add(f.getType() + " " + f.getName() + " " + Modifier.toString(f.getModifiers()));
        }
        yes("the constants " + constants, constants.equals(Set.of("int BAD public static final", "int FULL public static final",
                "int NONE public static final", "int STATE public static final", "long NO public static final")));
    }

    private static void names() {
        Set<String> open = new TreeSet<>();
        for (Method m : RoomNumbers.class.getDeclaredMethods()) {
            if (Modifier.isPublic(m.getModifiers())) open.add(m.getName());
        }
        for (Method m : RoomNumbers.class.getDeclaredMethods()) {
            if (!Modifier.isPublic(m.getModifiers())) yes("a name of its own: " + m.getName(), !open.contains(m.getName()));
        }
        for (Class<?> inside : RoomNumbers.class.getDeclaredClasses()) {
            yes(inside + " is static", Modifier.isStatic(inside.getModifiers()));
            yes(inside + " is not open", !Modifier.isPublic(inside.getModifiers()) && !Modifier.isProtected(inside.getModifiers()));
            for (Method m : inside.getDeclaredMethods()) yes("a name of its own: " + m, !open.contains(m.getName()));
        }
    }

    private static void sizes() {
        List<Class<?>> all = new ArrayList<>(Arrays.asList(RoomNumbers.class.getDeclaredClasses()));
        all.add(RoomNumbers.class);
        yes("some twelve classes at most", all.size() <= 13);
        for (Class<?> c : all) {
            int fields = 0;
            for (Field f : c.getDeclaredFields()) {
                boolean still = Modifier.isStatic(f.getModifiers());
                yes(f + " is final", !still || Modifier.isFinal(f.getModifiers()));
                fields += still ? 0 : 1;
            }
            yes("fields of " + c, fields <= 20);
            for (Method m : c.getDeclaredMethods()) yes("parameters of " + m, m.getParameterCount() <= 7);
        }
    }

    private static void words(String source) {
        String bare = source.replaceAll("(?s)/\\*.*?\\*/", "").replaceAll("//[^\n]*", "").replaceAll("\"[^\"\n]*\"", "\"\"");
        for (String word : new String[] {"throw", "throws", "try", "catch", "finally", "synchronized", "assert", "protected",
            "System\\.out", "Exact", "hashCode", "NaN", "Object", "Thread", "nanoTime", "random", "package"}) {
            yes("no " + word, !Pattern.compile("\\b" + word + "\\b").matcher(bare).find());
        }
        String withoutCases = bare.replaceAll("(case [^;{}]*?|default)\\s*->", "");
        yes("no lambda, no method reference", !withoutCases.contains("->") && !bare.contains("::"));
        yes("no toString of its own", !Pattern.compile("String\\s+toString\\s*\\(").matcher(bare).find());
        yes("no static block", !Pattern.compile("static\\s*\\{").matcher(bare).find());
        Matcher imports = Pattern.compile("import ([\\w.]+);").matcher(bare);
        Set<String> library = Set.of("java.util.Arrays", "java.util.ArrayList", "java.util.List", "java.util.Iterator");
        while (imports.find()) yes("the library has " + imports.group(1), library.contains(imports.group(1)));
        String uncommented = source.replaceAll("(?s)/\\*.*?\\*/", "").replaceAll("//[^\n]*", "");
        yes("signs 1 to 127", uncommented.chars().allMatch(ch -> ch >= 1 && ch <= 127));
        int start = 0;
        String[] lines = source.split("\n");
        for (int i = 0; i < lines.length; i++) {
            if (lines[i].matches(" {4,8}\\w.*\\) \\{")) start = i;
            if (lines[i].matches(" {4,8}\\}")) yes("the method ahead of line " + (i + 1) + " is short", i - start <= 60 || lines[i].equals("    }"));
        }
    }
}
