import java.lang.reflect.InvocationTargetException;
import java.lang.reflect.Method;
import java.util.Arrays;
import java.util.List;

/** No call throws or runs on, for any numbers in any state, and none makes objects. */
public final class EdgeTest {
    private static final int[] EDGES = {Integer.MIN_VALUE, Integer.MIN_VALUE + 1, -601, -600, -100, -2, -1, 0, 1, 2, 3, 4, 5, 6, 9, 10, 11, 12, 23, 24,
        59, 60, 61, 99, 100, 101, 600, 601, 1600, 9999, 2000000000, 2000000001, Integer.MAX_VALUE - 1, Integer.MAX_VALUE};
    // Far above what the dearest call takes, far below what one that runs on would take.
    private static final long MOST_NANOS = 20000000000L;

    public static void main(String[] args) throws ReflectiveOperationException {
        for (int seed = 1; seed <= 400; seed++) {
            anyCalls(seed);
        }
        strangeTapes();
        dearestCalls();
        noObjects();
        Check.finish();
    }

    private static void anyCalls(int seed) throws ReflectiveOperationException {
        Draws draws = new Draws(seed);
        List<Method> face = Draws.face();
        NoseDrum x = new NoseDrum();
        if (seed % 4 != 0) {
            Check.tell(x, draws.drum());
            x.drum();
        }
        for (int i = 0; i < 512; i++) {
            Method m = face.get(draws.upTo(face.size() - 1));
            if (!m.getName().equals("drum") || draws.once(30)) {
                ask(seed, x, m, anyArguments(draws, m, x));
            }
        }
    }

    private static Object[] anyArguments(Draws draws, Method m, NoseDrum x) {
        Object[] arguments = draws.arguments(m, x::count);
        for (int i = 0; i < arguments.length; i++) {
            if (arguments[i] instanceof Integer && draws.once(3)) {
                arguments[i] = EDGES[draws.upTo(EDGES.length - 1)];
            } else if (arguments[i] instanceof Long && draws.once(3)) {
                arguments[i] = draws.once(2) ? Long.MIN_VALUE : Long.MAX_VALUE;
            }
        }
        return arguments;
    }

    private static void ask(int seed, NoseDrum x, Method m, Object[] arguments) throws ReflectiveOperationException {
        String call = "seed " + seed + ": " + m.getName() + Arrays.toString(arguments);
        long before = System.nanoTime();
        try {
            m.invoke(x, arguments);
        } catch (InvocationTargetException e) {
            Check.due(call + " threw " + e.getCause(), 1, 0);
        }
        Check.due(call + " ran on", System.nanoTime() - before < MOST_NANOS ? 1 : 0, 1);
    }

    /** Any bytes on the tape are read to a fault or an end. */
    private static void strangeTapes() {
        for (int seed = 1; seed <= 3000; seed++) {
            Draws draws = new Draws(seed);
            NoseDrum x = new NoseDrum();
            Check.tell(x, "drum steps 60 jam 60 slack 9;track;knife on 0 spring 1 lag 1;");
            x.drum();
            int signs = draws.from(1, 80);
            String some = draws.once(2) ? "times2{" : ";{}0 a";
            for (int i = 0; i < signs; i++) {
                int[] v = new int[5];
                for (int j = 0; j < 20; j++) {
                    int c = draws.once(40) ? draws.upTo(255) : some.charAt((i * 20 + j) % some.length());
                    v[j / 4] = v[j / 4] << 8 | c;
                }
                x.feed(v[0], v[1], v[2], v[3], v[4]);
            }
            int motion = x.motion();
            int drum = x.drum();
            boolean placed = x.fault(0) == 0 || x.fault(1) >= 0 && x.fault(1) <= 1600;
            Check.due("strange tape " + seed, motion >= -4 && drum >= -4 && placed ? 1 : 0, 1);
        }
    }

    private static String dearest() {
        StringBuilder text = new StringBuilder("drum steps 60 jam 60 slack 0;track;");
        for (int i = 0; i < 24; i++) {
            text.append("nose on 0 at ").append(i * 2).append(" wide 1 high 60 steep 1;");
        }
        text.append("roller 9 on 0 spring 1 lag 20;");
        for (int i = 0; i < 9; i++) {
            text.append("lever on ").append(i).append(" 9 over 9;");
        }
        text.append("pawl on 9 at 59 teeth 29;pawl on 9 at 60 teeth 23;pawl on 9 at 1 teeth 19;pawl on 9 at 58 teeth 17;gear 59 to 60;");
        return text.toString();
    }

    private static void dearestCalls() {
        NoseDrum x = new NoseDrum();
        Check.tell(x, dearest());
        Check.due("the dearest drum", x.drum(), 41);
        StringBuilder acts = new StringBuilder("times 60{times 60{times 60{times 60{");
        for (int i = 0; i < 60; i++) {
            acts.append("if 9 above 999{up 1;}");
        }
        Check.tell(x, acts.append("times 60{}}}}}up 1;").toString());
        Check.due("a motion of empty acts", x.motion(), 1);
        x.row(0, 0, 0);
        long before = System.nanoTime();
        for (int i = 0; i < 100; i++) {
            x.faults(9, 59, 0);
            x.guess(9, 59, 0, 3);
            x.turn(600);
            x.same();
            x.nearest();
            x.until(9, 59, i, 60, 1);
            x.margin(i % 24, 9, 99);
            x.widest(1);
        }
        Check.due("the dearest calls ran on", System.nanoTime() - before < 6 * MOST_NANOS ? 1 : 0, 1);
    }

    /** All calls of one run live in one room: what an object makes, it makes at first. */
    private static void noObjects() {
        if (!(java.lang.management.ManagementFactory.getThreadMXBean() instanceof com.sun.management.ThreadMXBean bean)) {
            return;
        }
        long me = Thread.currentThread().getId();
        NoseDrum x = new NoseDrum();
        String text = dearest();
        long most = 0;
        for (int round = 0; round < 3; round++) {
            Check.tell(x, text);
            long before = bean.getThreadAllocatedBytes(me);
            x.drum();
            x.motion();
            x.turn(100);
            x.turn(-100);
            x.row(0, 3, 8);
            for (int i = 0; i < 8; i++) {
                x.write(0, i, 30);
            }
            x.fewest(0);
            x.place(0, 7);
            x.clash(0);
            x.faults(9, 59, 0);
            x.guess(9, 59, 0, 1);
            x.until(9, 59, 5, 60, 50);
            x.spare();
            x.keep(0);
            x.back(0);
            x.paste(0, 0, 0, 1, 7);
            most = bean.getThreadAllocatedBytes(me) - before;
        }
        Check.due("bytes that calls made: " + most, most < 1000 ? 1 : 0, 1);
    }
}
