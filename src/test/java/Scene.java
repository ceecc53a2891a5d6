import java.lang.reflect.InvocationTargetException;
import java.lang.reflect.Method;
import java.lang.reflect.Modifier;
import java.util.ArrayList;
import java.util.List;
import java.util.Map;
import java.util.TreeMap;

/**
 * A new object and the calls that came to it so far. A scene never changes: each answer is asked of an object
 * that is made for it alone, and a further call makes another scene.
 */
final class Scene {
    static final int BAD = -1, FULL = -2, NONE = -3, STATE = -4;
    static final long NO = -1000000000000L;
    static final int LOW = Integer.MIN_VALUE, HIGH = Integer.MAX_VALUE;

    private static final Map<String, Method> METHODS = publicMethods();
    /** More calls than that are free to answer anything. */
    private static final int CALLS = 512;

    private final List<Call> calls;

    private record Call(String name, long[] args) {
        long on(RoomNumbers x) {
            Method m = METHODS.get(name);
            if (m == null || m.getParameterCount() != args.length) throw new IllegalStateException("no such call: " + told());
            Object[] given = new Object[args.length];
            for (int i = 0; i < given.length; i++) {
                boolean wide = m.getParameterTypes()[i] == long.class;
                given[i] = wide ? (Object) args[i] : (Object) Math.toIntExact(args[i]);
            }
            try {
                return ((Number) m.invoke(x, given)).longValue();
            } catch (InvocationTargetException | IllegalAccessException e) {
                throw new IllegalStateException(told() + " threw", e);
            }
        }

        String told() {
            StringBuilder b = new StringBuilder(name).append('(');
            for (int i = 0; i < args.length; i++) b.append(i == 0 ? "" : ", ").append(args[i]);
            return b.append(')').toString();
        }
    }

    private Scene(List<Call> calls) {
        this.calls = calls;
    }

    private static Map<String, Method> publicMethods() {
        Map<String, Method> all = new TreeMap<>();
        for (Method m : RoomNumbers.class.getDeclaredMethods()) {
            if (Modifier.isPublic(m.getModifiers())) all.put(m.getName(), m);
        }
        return all;
    }

    // ---- making scenes

    static Scene fresh() {
        return new Scene(List.of());
    }

    /** A scene whose valley is told by a text that must be right. */
    static Scene told(String text) {
        Scene fed = fresh().fed(text);
        Checks.due(fed.label("valley() of a right text") + ", whether it is right", fed.with("valley").answer() >= 0 ? 1 : 0, 1);
        return fed.with("valley");
    }

    /** All that an object can hold stands in it but bytes on the tape, and the valley is not what was kept. */
    static Scene lived() {
        return told("evening 1 3 9; note 0:1,2; strokes 1:1,1; turned 2 at 3:4,5,6; more 0 1; whole 2 2;")
                .with("seed", 77).with("keep").with("seed", -5).with("prove", 3).with("alter", 0, 1, 3)
                .with("sheet", 0, 0, 4).with("put", 0, 1, -7).with("put", 0, 3, 9).with("sheet", 1, 2, 2).with("put", 1, 0, 70000)
                .with("shelf", 0, 0, 1).with("shelf", 1, 1, 0).with("act", 0, 3, 5);
    }

    /** The same scene with bytes on the tape that tell of a note, if they are taken as they are. */
    Scene withBytes() {
        return fed("left 1:3;");
    }

    Scene with(String name, long... args) {
        List<Call> more = new ArrayList<>(calls);
        more.add(new Call(name, args.clone()));
        return new Scene(more);
    }

    Scene fed(String text) {
        Scene scene = this;
        for (int at = 0; at < text.length(); at += 8) {
            int n = Math.min(8, text.length() - at);
            long eight = 0;
            for (int i = 0; i < n; i++) eight |= (long) (text.charAt(at + i) & 255) << (8 * i);
            scene = scene.with("feed", eight, n);
        }
        return scene;
    }

    // ---- asking

    /** The call answers what is due; answers the scene behind it. */
    Scene then(long due, String name, long... args) {
        Scene behind = with(name, args);
        Checks.due(label(new Call(name, args).told()), behind.answer(), due);
        return behind;
    }

    /** The call answers what is due, and nothing has changed by it. */
    void shows(long due, String name, long... args) {
        then(due, name, args).same(this);
    }

    /** The same of calls that are refused, one for each row of arguments. */
    void refuses(long due, String name, long[]... each) {
        for (long[] args : each) shows(due, name, args);
    }

    /** One argument after another, all else being as in a call that is right, is put beyond its range. */
    void bounds(long due, String name, long[] right, int which, long... wrong) {
        for (long v : wrong) {
            long[] args = right.clone();
            args[which] = v;
            shows(due, name, args);
        }
    }

    /** No call tells one scene from another. */
    void same(Scene other) {
        for (int part = 0; part < 4; part++) {
            List<Long> mine = looks(made(), part);
            List<Long> others = looks(other.made(), part);
            int differs = -1;
            for (int i = mine.size() - 1; i >= 0; i--) {
                if (!mine.get(i).equals(others.get(i))) differs = i;
            }
            Checks.due(label("") + " changed what is looked at in part " + part + ", at", differs, -1);
        }
    }

    // ---- what an object shows

    private RoomNumbers made() {
        RoomNumbers x = new RoomNumbers();
        for (Call c : calls) c.on(x);
        return x;
    }

    /** What the latest call answered. */
    long answer() {
        RoomNumbers x = new RoomNumbers();
        long answer = 0;
        for (Call c : calls) answer = c.on(x);
        return answer;
    }

    private List<Long> looks(RoomNumbers x, int part) {
        List<Long> seen = new ArrayList<>();
        if (part == 0) lookAtWorlds(x, seen);
        if (part == 1) lookAtHost(x, seen);
        if (part == 2) seen.add((long) x.again());
        if (part == 3) seen.add((long) x.valley());
        if (part != 1) lookAtValley(x, seen);
        if (calls.size() + seen.size() > CALLS) throw new IllegalStateException("too many calls of one object");
        return seen;
    }

    private static void lookAtValley(RoomNumbers x, List<Long> seen) {
        for (int what = 0; what <= 4; what++) seen.add((long) x.many(what));
        for (int e = 0; e < 3; e++) {
            for (int what = 0; what <= 2; what++) seen.add((long) x.eveningOf(e, what));
        }
        for (int i = 0; i < 6; i++) {
            for (int what = 0; what <= 3; what++) {
                seen.add((long) x.noteOf(i, what));
                seen.add((long) x.lineOf(i, what));
                seen.add(x.row(i, what));
            }
            for (int place = 0; place < 6; place++) seen.add((long) x.noteOf(i, 10 + place));
        }
        seen.add((long) x.seed(0));
    }

    private static void lookAtWorlds(RoomNumbers x, List<Long> seen) {
        seen.add((long) x.worlds());
        seen.add((long) x.proof());
        seen.add((long) x.judge());
        for (int i = 0; i < 3; i++) {
            seen.add((long) x.may(i));
            seen.add((long) x.mended(i));
        }
        for (int i = 0; i < 6; i++) {
            seen.add((long) x.which(i));
            seen.add((long) x.can(i));
            seen.add(x.worth(i, 16));
        }
        for (int i = 0; i < 16; i++) seen.add((long) x.trace(i));
    }

    private static void lookAtHost(RoomNumbers x, List<Long> seen) {
        int[] places = {0, 1, 2, 3, 4, 5, 39, 40};
        for (int i = 0; i < 4; i++) {
            for (int sort = 0; sort < 4; sort++) {
                for (int place : places) seen.add((long) x.item(i, sort, place));
                seen.add((long) x.taken(i, 10 + sort));
            }
            for (int as = 0; as < 6; as++) seen.add((long) x.taken(i, as));
        }
    }

    private String label(String call) {
        StringBuilder b = new StringBuilder("[").append(Sentences.now()).append("] ");
        for (Call c : calls) b.append(c.told()).append(' ');
        return b.append(call).toString();
    }
}
