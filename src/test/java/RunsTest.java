import java.lang.reflect.InvocationTargetException;
import java.util.HashSet;
import java.util.List;
import java.util.Set;
import java.util.TreeSet;
import java.util.function.Predicate;

/**
 * Runs of 512 calls on one object, in which calls of all promises follow each other: none throws, each ends, each
 * answers as the model does; what only asks and what is refused leaves nothing.
 */
public final class RunsTest {
    private static final int RUNS = 200;
    // These are run anew many times over.
    private static final int COMPARED = 24;
    // Far above what the dearest call takes, far below what one that runs on would take.
    private static final long MOST_NANOS = 20000000000L;

    private static final Set<String> CHANGING = Set.of("feed", "end", "drum", "motion", "turn", "wear", "breaks", "years", "keep", "back", "row",
        "write", "paste");
    private static final Set<String> READING = Set.of("drum", "motion");
    private static final Set<String> IN_IMAGES = Set.of("turn", "wear", "breaks", "years");

    private static final Set<String> TAKEN = new TreeSet<>();
    private static final Set<String> REFUSED = new TreeSet<>();

    public static void main(String[] args) throws ReflectiveOperationException {
        long first = args.length > 0 ? Long.parseLong(args[0]) : 1;
        int runs = args.length > 1 ? Integer.parseInt(args[1]) : RUNS;
        Run last = new Run(first + runs);
        for (long seed = first; seed < first + runs; seed++) {
            Run run = new Run(seed);
            answers(seed, run);
            sideBySide(seed, run, last);
            if (seed < first + COMPARED) {
                leavesNothing(seed, run);
                imageLeavesNothing(seed, run, last);
            }
            last = run;
        }
        everyPromise();
        Check.finish();
    }

    private static void answers(long seed, Run run) throws IllegalAccessException {
        NoseDrum x = new NoseDrum();
        Set<String> called = new HashSet<>();
        int i = 0;
        for (Run.Call call : run.calls) {
            long before = System.nanoTime();
            ask("run " + seed + ", call " + ++i, x, call);
            Check.due("run " + seed + ": " + call.told() + " ran on", System.nanoTime() - before < MOST_NANOS ? 1 : 0, 1);
            called.add(call.name());
            (call.due() < 0 ? REFUSED : TAKEN).add(call.name());
        }
        Check.due("run " + seed + " has as many calls", run.calls.size(), Run.CALLS);
        Check.due("run " + seed + " calls all promises", called.size(), Draws.face().size());
    }

    private static void ask(String where, NoseDrum x, Run.Call call) throws IllegalAccessException {
        try {
            Check.due(where + ": " + call.told(), call.on(x), call.due());
        } catch (InvocationTargetException e) {
            Check.due(where + ": " + call.told() + " threw " + e.getCause(), 1, 0);
        }
    }

    /** Two objects that are used by turns know nothing of each other. */
    private static void sideBySide(long seed, Run run, Run other) throws IllegalAccessException {
        NoseDrum x = new NoseDrum();
        NoseDrum y = new NoseDrum();
        for (int i = 0; i < Run.CALLS; i++) {
            ask("run " + seed + " beside another", x, run.calls.get(i));
            ask("another beside run " + seed, y, other.calls.get(i));
        }
    }

    private static void leavesNothing(long seed, Run run) {
        Predicate<Run.Call> changes = call -> CHANGING.contains(call.name());
        Predicate<Run.Call> taken = call -> call.due() >= 0 || READING.contains(call.name());
        Twin.alike("run " + seed + " without what only asks:", x -> tell(x, run.calls, call -> true), x -> tell(x, run.calls, changes));
        Twin.alike("run " + seed + " without what is refused:", x -> tell(x, run.calls, changes), x -> tell(x, run.calls, changes.and(taken)));
    }

    /** What is turned, worn and broken between an image and its going back is as if it never was. */
    private static void imageLeavesNothing(long seed, Run run, Run other) {
        List<Run.Call> before = run.calls.subList(0, Run.CALLS / 2);
        Predicate<Run.Call> between = call -> CHANGING.contains(call.name()) && !call.name().equals("keep") && !call.name().equals("back");
        Twin.alike("run " + seed + " back to an image:", x -> {
            tell(x, before, call -> true);
            x.keep(2);
            tell(x, other.calls, between);
            x.back(2);
        }, x -> {
            tell(x, before, call -> true);
            x.keep(2);
            tell(x, other.calls, between.and(call -> !IN_IMAGES.contains(call.name())));
            x.back(2);
        });
    }

    private static void tell(NoseDrum x, List<Run.Call> calls, Predicate<Run.Call> which) {
        for (Run.Call call : calls) {
            if (which.test(call)) {
                try {
                    call.on(x);
                } catch (ReflectiveOperationException e) {
                    Check.due(call.told() + " threw " + e.getCause(), 1, 0);
                }
            }
        }
    }

    /** The draws are worth something only if each call was taken and refused. */
    private static void everyPromise() {
        for (var m : Draws.face()) {
            Check.due(m.getName() + " was never taken", TAKEN.contains(m.getName()) ? 1 : 0, 1);
            Check.due(m.getName() + " was never refused", REFUSED.contains(m.getName()) ? 1 : 0, 1);
        }
    }
}
