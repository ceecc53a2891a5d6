import java.lang.reflect.Method;
import java.lang.reflect.Modifier;
import java.util.Arrays;
import java.util.Map;
import java.util.TreeMap;

/** The class and PlainRooms side by side: each call goes to both, and their answers must be the same. */
final class Both {
    private static final Map<String, Method> FAST = publicMethods(RoomNumbers.class);
    private static final Map<String, Method> PLAIN = publicMethods(PlainRooms.class);

    private final RoomNumbers room = new RoomNumbers();
    private final PlainRooms rooms = new PlainRooms();
    private final StringBuilder told = new StringBuilder();

    private static Map<String, Method> publicMethods(Class<?> type) {
        Map<String, Method> all = new TreeMap<>();
        for (Method m : type.getDeclaredMethods()) {
            if (Modifier.isPublic(m.getModifiers())) all.put(m.getName(), m);
        }
        return all;
    }

    static String[] names() {
        Checks.due("the same methods", FAST.keySet().equals(PLAIN.keySet()) ? 1 : 0, 1);
        return FAST.keySet().toArray(new String[0]);
    }

    static Class<?>[] parameters(String name) {
        return FAST.get(name).getParameterTypes();
    }

    long call(String name, Object... args) throws Exception {
        told.append(name).append(Arrays.toString(args)).append(' ');
        long got = ((Number) FAST.get(name).invoke(room, args)).longValue();
        long want = ((Number) PLAIN.get(name).invoke(rooms, args)).longValue();
        if (got != want) System.out.println("behind " + told);
        Checks.due(name + Arrays.toString(args), got, want);
        return got;
    }
}
