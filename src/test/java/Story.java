import java.lang.reflect.InvocationTargetException;
import java.lang.reflect.Method;
import java.util.Arrays;
import java.util.HashMap;
import java.util.Map;
import java.util.Set;
import java.util.TreeSet;

/**
 * One object's run of calls, told as rows of a text: "lift 0 2 = 6" is a call with the answer that is due,
 * "lift 0 * = 0 3 6" three of them (a * goes 0, 1, 2 ..), "tell up 1;" puts a text behind the tape,
 * "step 4" turns one step at a time, as often, each being taken. What stands behind # is not looked at.
 */
final class Story {
    static final int MOST_CALLS = 512;

    private static final Map<String, Method> FACE = new HashMap<>();

    static {
        for (Method m : Draws.face()) {
            FACE.put(m.getName(), m);
        }
    }

    private final String title;
    private final NoseDrum x = new NoseDrum();
    private final Set<String> called = new TreeSet<>();
    private int calls = 0;

    private Story(String title) {
        this.title = title;
    }

    /** Tells a run; all promises have to have a call in it. */
    static void whole(String title, String rows) throws ReflectiveOperationException {
        Story story = part(title, rows);
        Set<String> missing = new TreeSet<>(FACE.keySet());
        missing.removeAll(story.called);
        Check.due(title + " never calls " + missing, missing.size(), 0);
    }

    static Story part(String title, String rows) throws ReflectiveOperationException {
        Story story = new Story(title);
        for (String row : rows.split("\n")) {
            String told = row.replaceFirst("#.*", "").strip();
            if (!told.isEmpty()) {
                story.tellRow(told);
            }
        }
        Check.due(title + " has " + story.calls + " calls: too many", story.calls <= MOST_CALLS ? 1 : 0, 1);
        return story;
    }

    private void tellRow(String row) throws ReflectiveOperationException {
        if (row.startsWith("tell ")) {
            tell(row.substring(5));
            return;
        }
        if (row.startsWith("step ")) {
            int many = Integer.parseInt(row.substring(5).strip());
            for (int i = 0; i < Math.abs(many); i++) {
                ask(row, "turn", new String[] {many < 0 ? "-1" : "1"}, 1);
            }
            return;
        }
        String[] sides = row.split("=");
        String[] words = sides[0].strip().split(" +");
        String[] wants = sides[1].strip().split(" +");
        String[] arguments = Arrays.copyOfRange(words, 1, words.length);
        for (int i = 0; i < wants.length; i++) {
            String[] filled = arguments.clone();
            for (int j = 0; j < filled.length; j++) {
                filled[j] = filled[j].equals("*") ? Integer.toString(i) : filled[j];
            }
            ask(row, words[0], filled, Long.parseLong(wants[i]));
        }
    }

    private void tell(String text) throws ReflectiveOperationException {
        String padded = text + " ".repeat((20 - text.length() % 20) % 20);
        long bytes = 0;
        for (int i = 0; i < padded.length(); i += 20) {
            String[] fives = new String[5];
            for (int j = 0; j < 5; j++) {
                int at = i + 4 * j;
                fives[j] = Integer.toString(padded.charAt(at) << 24 | padded.charAt(at + 1) << 16 | padded.charAt(at + 2) << 8 | padded.charAt(at + 3));
            }
            bytes = call("feed", fives);
        }
        long end = bytes - padded.length() + text.length();
        ask("tell " + text, "end", new String[] {Long.toString(end)}, end);
    }

    private void ask(String row, String name, String[] arguments, long want) throws ReflectiveOperationException {
        String told = title + ", call " + (calls + 1) + " (" + row + "): " + name + Arrays.toString(arguments);
        try {
            Check.due(told, call(name, arguments), want);
        } catch (InvocationTargetException e) {
            Check.due(told + " threw " + e.getCause(), 1, 0);
        }
    }

    private long call(String name, String[] arguments) throws ReflectiveOperationException {
        Method m = FACE.get(name);
        if (m == null || m.getParameterCount() != arguments.length) {
            throw new IllegalStateException(title + ": there is no " + name + " of " + arguments.length);
        }
        Class<?>[] kinds = m.getParameterTypes();
        Object[] values = new Object[arguments.length];
        for (int i = 0; i < values.length; i++) {
            long v = Long.parseLong(arguments[i]);
            if (kinds[i] == boolean.class) {
                values[i] = v != 0;
            } else if (kinds[i] == long.class) {
                values[i] = v;
            } else {
                values[i] = (int) v;
            }
        }
        calls++;
        called.add(name);
        return ((Number) m.invoke(x, values)).longValue();
    }
}
