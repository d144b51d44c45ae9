import java.lang.reflect.InvocationTargetException;
import java.lang.reflect.Method;
import java.util.ArrayList;
import java.util.Arrays;
import java.util.Collections;
import java.util.HashMap;
import java.util.List;
import java.util.Map;

/**
 * One object's run of calls by draws, with the model's answers: just as many as an object is used for, and of every
 * promise some. The object that the run is for is never asked, so that its calls are these alone.
 */
final class Run {
    static final int CALLS = 512;

    private static final List<Method> FACE = Draws.face();
    private static final Map<String, Method> NAMED = new HashMap<>();
    private static final Map<String, Method> MODELS = new HashMap<>();

    static {
        for (Method m : FACE) {
            NAMED.put(m.getName(), m);
        }
        for (Method m : Model.class.getDeclaredMethods()) {
            if (java.lang.reflect.Modifier.isPublic(m.getModifiers())) {
                MODELS.put(m.getName(), m);
            }
        }
    }

    /** A call with the answer that is due. */
    record Call(Method method, Object[] arguments, long due) {
        String name() {
            return method.getName();
        }

        String told() {
            return name() + Arrays.toString(arguments);
        }

        /** What the object answers; what it throws goes on. */
        long on(NoseDrum x) throws InvocationTargetException, IllegalAccessException {
            return ((Number) method.invoke(x, arguments)).longValue();
        }
    }

    final List<Call> calls = new ArrayList<>();
    private final Draws draws;
    private final Model model = new Model();

    Run(long seed) throws ReflectiveOperationException {
        draws = new Draws(seed);
        if (!draws.once(6)) {
            drumText();
        }
        while (calls.size() < CALLS) {
            // As a pack of cards is gone through: each comes again only when all have come.
            List<Method> pack = new ArrayList<>(FACE);
            Collections.shuffle(pack, draws.random);
            for (Method m : pack) {
                scene(m);
            }
        }
    }

    private long call(String name, Object... arguments) throws ReflectiveOperationException {
        if (calls.size() >= CALLS) {
            return 0;
        }
        long due = ((Number) MODELS.get(name).invoke(model, arguments)).longValue();
        calls.add(new Call(NAMED.get(name), arguments, due));
        return due;
    }

    private void scene(Method m) throws ReflectiveOperationException {
        switch (m.getName()) {
            case "feed" -> noise();
            case "drum" -> drumText();
            case "motion" -> motionText();
            case "turn" -> turns();
            case "clash" -> packed();
            case "guess" -> heard();
            case "back" -> images();
            default -> {
                if (draws.once(9) && m.getParameterCount() > 0) {
                    call(m.getName(), draws.arguments(m, model::count));
                }
                call(m.getName(), draws.arguments(m, model::count));
            }
        }
    }

    private void noise() throws ReflectiveOperationException {
        // Now and then more than the tape takes.
        for (int i = draws.once(9) ? 81 : draws.from(1, 3); i > 0; i--) {
            call("feed", draws.random.nextInt(), 0x20202020, 0x75702031, draws.random.nextInt(), 0x3b0a0a20);
        }
        if (draws.once(2)) {
            call(draws.once(2) ? "drum" : "motion");
            call("fault", 0);
            call("fault", 1);
        }
    }

    private void drumText() throws ReflectiveOperationException {
        String text = draws.drum();
        // Most are short, so that there is room for other calls.
        for (int i = 0; i < 9 && text.length() > 500; i++) {
            text = draws.drum();
        }
        tell(draws.once(20) ? "" : draws.once(3) ? draws.spoilt(text) : text);
        call("drum");
        call("fault", 0);
        call("fault", 1);
    }

    private void motionText() throws ReflectiveOperationException {
        String text = draws.motion(draws.upTo(5), model.count(3));
        for (int i = 0; i < 9 && text.length() > 300; i++) {
            text = draws.motion(draws.upTo(3), model.count(3));
        }
        tell(draws.once(3) ? draws.spoilt(text) : text);
        call("motion");
        call("fault", 0);
        call("fault", 1);
        for (int s = draws.upTo(3); s < model.count(0); s += 5) {
            call("rowAt", s);
        }
    }

    /** Mostly over a tape that is cleared; else what is left of the last text stands ahead. */
    private void tell(String text) throws ReflectiveOperationException {
        if (!draws.once(9)) {
            call("end", 0);
        }
        int before = model.count(6);
        String padded = text + " ".repeat((20 - text.length() % 20) % 20);
        for (int i = 0; i < padded.length(); i += 20) {
            Object[] fives = new Object[5];
            for (int j = 0; j < 5; j++) {
                int four = 0;
                for (int k = 0; k < 4; k++) {
                    four = four << 8 | padded.charAt(i + 4 * j + k);
                }
                fives[j] = four;
            }
            call("feed", fives);
        }
        call("end", before + text.length());
    }

    private void turns() throws ReflectiveOperationException {
        for (int i = draws.from(1, 6); i > 0; i--) {
            call("turn", draws.arguments(NAMED.get("turn"), model::count));
            if (draws.once(2)) {
                call("stands", draws.upTo(5));
                call("follower", draws.upTo(Math.max(0, model.count(3) - 1)), draws.upTo(4));
            }
        }
    }

    /** Motions that need some tracks. */
    private void packed() throws ReflectiveOperationException {
        int slot = draws.upTo(3);
        int many = draws.from(1, 8);
        int steps = Math.max(4, model.count(0));
        call("row", slot, draws.upTo(3), many);
        for (int i = 0; i < many; i++) {
            call("write", slot, i, (long) (draws.once(2) ? draws.from(1, steps) : draws.from(1, steps / 2)));
        }
        call("fewest", slot);
        call("clash", slot);
        call("place", slot, draws.upTo(many));
    }

    /** What is heard now, or nearly that, is told as a row. */
    private void heard() throws ReflectiveOperationException {
        int slot = draws.upTo(3);
        int follower = draws.upTo(Math.max(0, model.count(3) - 1));
        int height = draws.once(4) ? draws.from(1, 99) : draws.from(1, 12);
        long bits = Math.max(0, call("heard", follower, height));
        call("row", slot, draws.upTo(3), Long.bitCount(bits));
        int i = 0;
        for (int s = 0; s < 60; s++) {
            if ((bits >> s & 1) == 1) {
                call("write", slot, i++, (long) (draws.once(30) ? s + 1 : s));
            }
        }
        call("faults", follower, height, slot);
        call("guess", follower, height, slot, draws.upTo(3));
        call("margin", draws.upTo(Math.max(0, model.count(2) - 1)), follower, height);
        call("until", follower, height, draws.upTo(2000000000), draws.from(1, 60), draws.upTo(100));
    }

    /** An image is kept, something happens, and it is gone back to. */
    private void images() throws ReflectiveOperationException {
        call("back", draws.upTo(3));
        int k = draws.upTo(2);
        if (draws.once(2)) {
            call("keep", k);
        }
        turns();
        call("breaks", draws.arguments(NAMED.get("breaks"), model::count));
        call("years", draws.arguments(NAMED.get("years"), model::count));
        call("back", k);
        turns();
    }
}
