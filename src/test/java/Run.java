import java.lang.reflect.InvocationTargetException;
import java.lang.reflect.Method;
import java.util.HashMap;
import java.util.Map;

/** One object whose calls are asked for by name, and no more of them than the document answers for. */
final class Run {
    private static final int MOST_CALLS = 512;
    private static final Map<String, Method> FACE = face();
    private final ColourEcho x = new ColourEcho();
    private int calls = 0;

    private static Map<String, Method> face() {
        Map<String, Method> all = new HashMap<>();
        for (Method method : ColourEcho.class.getMethods()) {
            if (method.getDeclaringClass() == ColourEcho.class) {
                all.put(method.getName(), method);
            }
        }
        return all;
    }

    long ask(String name, int... with) {
        calls++;
        if (calls > MOST_CALLS) {
            throw new IllegalStateException("this test asks one object more than " + MOST_CALLS + " times");
        }
        Object[] boxed = new Object[with.length];
        for (int i = 0; i < with.length; i++) {
            boxed[i] = with[i];
        }
        try {
            return ((Number) FACE.get(name).invoke(x, boxed)).longValue();
        } catch (IllegalAccessException | InvocationTargetException thrown) {
            throw new IllegalStateException(name + java.util.Arrays.toString(with) + " threw", thrown);
        }
    }

    /** Adds a text to what stands on the pad. */
    void say(String text) {
        for (int i = 0; i < text.length(); i++) {
            ask("say", text.charAt(i));
        }
    }

    /** Everything that can be learnt of the object, with its pad done and its images brought back at the end. */
    String all() {
        StringBuilder text = new StringBuilder();
        asItIs(text);
        put(text, "done");
        today(text);
        for (int n = 0; n < 2; n++) {
            put(text, "restore", n);
            today(text);
            walls(text);
            put(text, "shown", -1);
        }
        return text.toString();
    }

    private void asItIs(StringBuilder text) {
        today(text);
        walls(text);
        for (int dress = 1; dress <= 6; dress++) {
            for (int colour = 0; colour < 3; colour++) {
                put(text, "told", 100 * dress + colour);
            }
        }
        for (String name : new String[] {"fault", "broken", "gone"}) {
            put(text, name);
        }
        for (int what = 0; what < 4; what++) {
            put(text, "behind", what);
            put(text, "judge", what % 2);
            put(text, "look", what % 2);
            put(text, "year", 77, 60, what % 3);
        }
        for (int i = -1; i < 8; i++) {
            put(text, "shown", i);
        }
        // Nine days on everything that was seen up to now has come back off a wall.
        for (int d = 1; d < 10; d++) {
            put(text, "forecast", 0, d);
            put(text, "forecast", 2, d);
        }
    }

    private void today(StringBuilder text) {
        for (int what = 0; what < 7; what++) {
            put(text, "told", what);
        }
        for (int colour = 0; colour < 3; colour++) {
            put(text, "sees", colour);
        }
    }

    private void walls(StringBuilder text) {
        for (int wall = 1; wall <= 4; wall++) {
            put(text, "told", 10 * wall);
            put(text, "told", 10 * wall + 1);
        }
    }

    private void put(StringBuilder text, String name, int... with) {
        text.append(name).append(java.util.Arrays.toString(with)).append('=').append(ask(name, with)).append(' ');
    }
}
