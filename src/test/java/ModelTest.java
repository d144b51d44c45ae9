import java.lang.reflect.InvocationTargetException;
import java.lang.reflect.Method;
import java.util.ArrayList;
import java.util.Arrays;
import java.util.List;

/** Runs of calls by draws, each answered by the class and by the model. */
public final class ModelTest {
    private static final int RUNS = 500;
    private static final int CALLS = 150;

    private static final List<Method> FACE = Draws.face();
    private static final List<String> LOG = new ArrayList<>();
    private static int good = 0;

    public static void main(String[] args) throws ReflectiveOperationException {
        long first = args.length > 0 ? Long.parseLong(args[0]) : 1;
        int runs = args.length > 1 ? Integer.parseInt(args[1]) : RUNS;
        for (long seed = first; seed < first + runs; seed++) {
            run(seed);
        }
        Check.due("texts that are good, of many", good > runs ? 1 : 0, 1);
        Check.finish();
    }

    private static void run(long seed) throws ReflectiveOperationException {
        LOG.clear();
        Draws draws = new Draws(seed);
        NoseDrum x = new NoseDrum();
        Model y = new Model();
        if (!draws.once(20)) {
            tell(draws, x, y, "drum");
        }
        for (int i = 0; i < CALLS; i++) {
            if (draws.once(30)) {
                tell(draws, x, y, draws.once(4) ? "drum" : "motion");
            } else if (draws.once(30)) {
                packed(seed, draws, x, y);
            } else if (draws.once(30)) {
                heard(seed, draws, x, y);
            } else if (draws.once(60)) {
                steadyAsMotion(draws, x, y);
            } else {
                Method m = FACE.get(draws.upTo(FACE.size() - 1));
                if (!m.getName().equals("feed") && !m.getName().equals("drum") || draws.once(20)) {
                    both(seed, x, y, m, draws.arguments(m, x::count));
                }
            }
        }
    }

    private static Method named(String name) {
        for (Method m : FACE) {
            if (m.getName().equals(name)) {
                return m;
            }
        }
        throw new IllegalStateException(name);
    }

    private static void call(long seed, NoseDrum x, Model y, String name, Object... arguments) throws ReflectiveOperationException {
        both(seed, x, y, named(name), arguments);
    }

    /** Motions that need some tracks. */
    private static void packed(long seed, Draws draws, NoseDrum x, Model y) throws ReflectiveOperationException {
        int slot = draws.upTo(3);
        int many = draws.from(1, 8);
        call(seed, x, y, "row", slot, draws.upTo(3), many);
        for (int i = 0; i < many; i++) {
            int steps = Math.max(4, x.count(0));
            call(seed, x, y, "write", slot, i, (long) (draws.once(2) ? draws.from(1, steps) : draws.from(1, steps / 2)));
        }
        call(seed, x, y, "fewest", slot);
        call(seed, x, y, "clash", slot);
        for (int i = 0; i <= many; i++) {
            call(seed, x, y, "place", slot, i);
        }
    }

    /** What is heard of the drum with one fault more or less is asked for. */
    private static void heard(long seed, Draws draws, NoseDrum x, Model y) throws ReflectiveOperationException {
        if (x.count(3) < 1 || x.count(2) < 1) {
            return;
        }
        int slot = draws.upTo(3);
        int follower = draws.upTo(x.count(3) - 1);
        int nose = draws.upTo(x.count(2) - 1);
        int height = draws.from(1, Math.min(99, Math.max(1, draws.once(3) ? 99 : x.nose(nose, 3))));
        if (draws.once(2)) {
            call(seed, x, y, "wear", nose, draws.upTo(5));
        }
        long bits = x.heard(follower, height);
        call(seed, x, y, "row", slot, draws.upTo(3), Long.bitCount(bits));
        int i = 0;
        for (int s = 0; s < 60; s++) {
            if ((bits >> s & 1) == 1) {
                call(seed, x, y, "write", slot, i++, (long) s);
            }
        }
        call(seed, x, y, "faults", follower, height, slot);
        for (int what = 0; what <= 3; what++) {
            call(seed, x, y, "guess", follower, height, slot, what);
        }
        call(seed, x, y, "margin", nose, follower, height);
        call(seed, x, y, "until", follower, height, draws.upTo(2000000000), draws.from(1, 60), draws.upTo(100));
    }

    /** A motion that is where a follower goes by, in some phase, if that comes to 0 at all. */
    private static void steadyAsMotion(Draws draws, NoseDrum x, Model y) {
        if (x.count(3) < 1) {
            return;
        }
        int follower = draws.upTo(x.count(3) - 1);
        int steps = x.count(0);
        StringBuilder text = new StringBuilder();
        int first = 0;
        while (first < steps - 1 && x.steady(follower, first) != 0) {
            first++;
        }
        for (int s = 1; s < steps; s++) {
            int rise = x.steady(follower, (first + s) % steps) - x.steady(follower, (first + s - 1) % steps);
            text.append(rise < 0 ? "down " : "up ").append(Math.min(60, Math.abs(rise))).append(';');
        }
        tellText(x, y, "motion", text.toString());
        Check.due("phase", x.phase(follower), y.phase(follower));
        Check.due("differs", x.differs(follower), y.differs(follower));
        Check.due("nearest", x.nearest(), y.nearest());
    }

    private static void tell(Draws draws, NoseDrum x, Model y, String what) {
        String text = what.equals("drum") ? draws.drum() : draws.motion(draws.upTo(5), x.count(3));
        if (draws.once(4)) {
            text = draws.spoilt(text);
        }
        tellText(x, y, what, text);
    }

    private static void tellText(NoseDrum x, Model y, String what, String text) {
        if (text.length() > 1600) {
            return;
        }
        x.end(0);
        y.end(0);
        Check.tell(x, text);
        for (int i = 0; i < text.length(); i += 20) {
            int[] fives = new int[5];
            for (int j = 0; j < 20; j++) {
                char c = i + j < text.length() ? text.charAt(i + j) : ' ';
                fives[j / 4] = fives[j / 4] << 8 | c;
            }
            y.feed(fives[0], fives[1], fives[2], fives[3], fives[4]);
        }
        y.end(text.length());
        LOG.add(text);
        int answer = what.equals("drum") ? x.drum() : x.motion();
        good += answer >= 0 ? 1 : 0;
        int want = what.equals("drum") ? y.drum() : y.motion();
        Check.due(what + " of " + text, answer, want);
        Check.due("fault(0) of " + text, x.fault(0), y.fault(0));
        Check.due("fault(1) of " + text, x.fault(1), y.fault(1));
    }

    private static void both(long seed, NoseDrum x, Model y, Method m, Object[] arguments) throws ReflectiveOperationException {
        String call = m.getName() + Arrays.toString(arguments);
        LOG.add(call);
        Method other = Model.class.getDeclaredMethod(m.getName(), m.getParameterTypes());
        try {
            long got = ((Number) m.invoke(x, arguments)).longValue();
            long want = ((Number) other.invoke(y, arguments)).longValue();
            Check.due("seed " + seed + ": " + call, got, want);
        } catch (InvocationTargetException e) {
            Check.due("seed " + seed + ": " + call + " threw " + e.getCause() + " behind " + LOG, 1, 0);
        }
    }
}
