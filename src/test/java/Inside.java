import java.lang.reflect.Array;
import java.lang.reflect.Field;
import java.lang.reflect.Modifier;
import java.util.IdentityHashMap;
import java.util.List;
import java.util.Map;

/** Tells all that a mill holds, so that a test sees whether a call changed anything of it. */
final class Inside {
    /** What keeps only what can be reckoned again at any time may change in any call. */
    private static final String RECKONED = "Planner";
    private final Map<Object, Integer> known = new IdentityHashMap<>();
    private final StringBuilder all = new StringBuilder();

    private Inside() {
    }

    static String of(Kerfhall mill) {
        Inside inside = new Inside();
        inside.tell(mill);
        return inside.all.toString();
    }

    /** What a field of a mill, or of something inside it, holds. */
    static Object held(Object owner, String field) {
        return valueOf(fieldOf(owner, field), owner);
    }

    /** Changes a number by hand, as no call does. */
    static void add(Object owner, String field, int more) {
        try {
            fieldOf(owner, field).setInt(owner, (Integer) held(owner, field) + more);
        } catch (IllegalAccessException closed) {
            throw new IllegalStateException(closed);
        }
    }

    private static Field fieldOf(Object owner, String name) {
        try {
            Field field = owner.getClass().getDeclaredField(name);
            field.setAccessible(true);
            return field;
        } catch (NoSuchFieldException missing) {
            throw new IllegalStateException(missing);
        }
    }

    private void tell(Object held) {
        if (held == null || held instanceof String || held instanceof Number || held instanceof Boolean
                || held instanceof Character) {
            all.append(held).append(' ');
        } else if (known.containsKey(held)) {
            all.append('#').append(known.get(held)).append(' ');
        } else {
            known.put(held, known.size());
            tellParts(held);
        }
    }

    private void tellParts(Object held) {
        if (held instanceof List<?>) {
            all.append("list ");
            for (Object part : (List<?>) held) {
                tell(part);
            }
            all.append("end ");
        } else if (held.getClass().isArray()) {
            for (int index = 0; index < Array.getLength(held); index++) {
                tell(Array.get(held, index));
            }
        } else if (!held.getClass().getSimpleName().equals(RECKONED)) {
            tellFields(held);
        }
    }

    private void tellFields(Object held) {
        for (Field field : held.getClass().getDeclaredFields()) {
            if (!Modifier.isStatic(field.getModifiers())) {
                all.append(field.getName()).append(' ');
                tell(valueOf(field, held));
            }
        }
    }

    private static Object valueOf(Field field, Object held) {
        try {
            field.setAccessible(true);
            return field.get(held);
        } catch (IllegalAccessException closed) {
            throw new IllegalStateException(closed);
        }
    }
}
