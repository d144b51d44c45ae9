import java.util.function.Consumer;
import java.util.function.ToLongFunction;

/**
 * Two objects that were told the same, one of which was refused a call more: all that the face lets be asked of
 * both must be alike, what is hidden too (slack, what is moved late, bytes of the tape, numbers of rows, images).
 */
final class Twin {
    private static final int SLOTS = 4;
    private static final int IMAGES = 3;
    private static final String READER = "drum steps 60 jam 1 slack 0;track;knife on 0 spring 1 lag 0;";

    static final String WHOLE = "drum steps 12 jam 5 slack 2;track;track;"
        + "nose on 0 at 2 wide 2 high 6 steep 2;nose on 1 at 7 wide 1 high 5 steep 3;"
        + "knife on 0 spring 1 lag 2;flat 1 on 1 spring 2 lag 0;lever on 0 3 over 2;pawl on 0 at 5 teeth 9;gear 3 to 2;";

    private Twin() {
    }

    /** A drum that was turned, worn and told a motion, with an image and a row. */
    static void stirred(NoseDrum x) {
        Check.tell(x, WHOLE);
        x.drum();
        Check.tell(x, "up 3;hold 2;down 1;");
        x.motion();
        x.turn(7);
        x.turn(-1);
        x.wear(0, 1);
        x.breaks(1, true);
        x.keep(1);
        x.turn(-3);
        Check.numbers(x, 2, 1, 3, 4, 5);
    }

    /** A call is refused with an answer of its own, and nothing happens by it. */
    static void refused(String call, Consumer<NoseDrum> before, ToLongFunction<NoseDrum> ask, long want) {
        NoseDrum x = new NoseDrum();
        before.accept(x);
        Check.due(call, ask.applyAsLong(x), want);
        alike("behind " + call, before.andThen(ask::applyAsLong), before);
    }

    /** What two runs of calls leave is alike. */
    static void alike(String what, Consumer<NoseDrum> one, Consumer<NoseDrum> other) {
        String got = transcript(one);
        String want = transcript(other);
        int at = 0;
        while (at < got.length() && at < want.length() && got.charAt(at) == want.charAt(at)) {
            at++;
        }
        String near = got.equals(want) ? "" : " near " + got.substring(Math.max(0, at - 60), Math.min(got.length(), at + 20));
        Check.due(what + " all is as it was" + near, got.equals(want) ? 1 : 0, 1);
    }

    private static NoseDrum after(Consumer<NoseDrum> run) {
        NoseDrum x = new NoseDrum();
        run.accept(x);
        return x;
    }

    private static String transcript(Consumer<NoseDrum> run) {
        StringBuilder all = new StringBuilder();
        NoseDrum x = after(run);
        face(all, x);
        goOn(all, x);
        if (x.count(6) > 0) {
            all.append(" drum ").append(x.drum());
            face(all, x);
            all.append(" motion ").append(x.motion());
            face(all, x);
        }
        for (int k = 0; k < IMAGES; k++) {
            all.append(" back ").append(x.back(k));
            face(all, x);
            goOn(all, x);
        }
        for (int slot = 0; slot < SLOTS; slot++) {
            all.append(" slot ").append(numbers(after(run), slot));
        }
        return all.toString();
    }

    private static void face(StringBuilder all, NoseDrum x) {
        for (int what = 0; what < 12; what++) {
            all.append(" c").append(x.count(what));
        }
        all.append(" fault").append(x.fault(0)).append(' ').append(x.fault(1));
        for (int s = 0; s < x.count(0); s++) {
            all.append(" r").append(x.rowAt(s));
            for (int t = 0; t < x.count(1); t++) {
                all.append(" p").append(x.profile(t, s));
            }
            for (int f = 0; f < x.count(3); f++) {
                all.append(" l").append(x.lift(f, s)).append(' ').append(x.steady(f, s));
            }
        }
        for (int i = 0; i < x.count(2); i++) {
            for (int what = 0; what < 6; what++) {
                all.append(" n").append(x.nose(i, what));
            }
        }
        all.append(" same").append(x.same());
        stand(all, x);
    }

    private static void stand(StringBuilder all, NoseDrum x) {
        for (int what = 0; what < 6; what++) {
            all.append(" s").append(x.stands(what));
        }
        for (int f = 0; f < x.count(3); f++) {
            for (int what = 0; what < 5; what++) {
                all.append(" f").append(x.follower(f, what));
            }
        }
        for (int p = 0; p < x.count(4); p++) {
            all.append(" w").append(x.pawl(p));
        }
    }

    /** Slack, what is moved late and who jams show as the drum goes on. */
    private static void goOn(StringBuilder all, NoseDrum x) {
        for (int i = 0; i < 44; i++) {
            all.append(" t").append(x.turn(i < 22 ? 1 : -1));
            stand(all, x);
        }
    }

    /** A slot's numbers, as far as they are 0 .. 60; all else of the object is used up. */
    static String numbers(NoseDrum x, int slot) {
        x.end(0);
        Check.tell(x, READER);
        x.drum();
        int helper = (slot + 1) % SLOTS;
        int width = widthOf(x, slot, helper);
        if (width < 0) {
            return "has nothing";
        }
        StringBuilder all = new StringBuilder("of width " + width + ":");
        for (int i = 0; x.paste(slot, i, helper, 0, 1) == 0; i++) {
            all.append(' ').append(number(x, helper, width));
            x.row(helper, width, 1);
        }
        return all.toString();
    }

    private static int widthOf(NoseDrum x, int slot, int helper) {
        for (int width = 0; width < 4; width++) {
            x.row(helper, width, 1);
            // Of no numbers, so that a row of none shows its width, too.
            if (x.paste(slot, 0, helper, 0, 0) == 0) {
                return width;
            }
        }
        return -1;
    }

    /** The number of a row of one: with each other motion of steps it finds room or not. */
    private static String number(NoseDrum x, int slot, int width) {
        if (x.fewest(slot) != 1) {
            return x.faults(0, 1, slot) >= 0 ? "0" : "?";
        }
        int other = (slot + 1) % SLOTS;
        x.row(other, width, 2);
        x.paste(slot, 0, other, 0, 1);
        int steps = 60;
        for (int k = 1; k < 60; k++) {
            x.write(other, 1, k);
            steps -= x.fewest(other) == 1 ? 1 : 0;
        }
        return Integer.toString(steps);
    }
}
