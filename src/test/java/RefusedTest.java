import java.util.function.Consumer;
import java.util.function.ToLongFunction;

/** Each refusal of promises 2 to 49 has its own answer below 0, in the order in which it is asked, and nothing happens by it. */
public final class RefusedTest {
    private static final int LOW = Integer.MIN_VALUE;
    private static final int HIGH = Integer.MAX_VALUE;

    private static Consumer<NoseDrum> before;

    public static void main(String[] args) {
        before = RefusedTest::stirredAndTold;
        ofADrum();
        ofAMotion();
        ofSlots();
        ofImages();
        before = RefusedTest::drumAlone;
        withoutMotion();
        before = RefusedTest::nothing;
        withoutDrum();
        twoReasons();
        Check.finish();
    }

    /** A tape is there, too, that is a motion. */
    private static void stirredAndTold(NoseDrum x) {
        Twin.stirred(x);
        Check.tell(x, "up 2;");
    }

    private static void drumAlone(NoseDrum x) {
        Check.tell(x, Twin.WHOLE);
        x.drum();
        x.turn(4);
        Check.tell(x, "up 2;");
        Check.numbers(x, 0, 0, 1, 2);
    }

    private static void nothing(NoseDrum x) {
        Check.tell(x, "drum steps 9 jam 3 slack 1;track;");
        Check.numbers(x, 0, 0, 1, 2);
        x.keep(2);
    }

    private static void refused(String call, ToLongFunction<NoseDrum> ask, long want) {
        Twin.refused(call, before, ask, want);
    }

    private static void ofADrum() {
        refused("profile(2, 0)", x -> x.profile(2, 0), -2);
        refused("profile(0, 12)", x -> x.profile(0, 12), -2);
        refused("lift(3, 0)", x -> x.lift(3, 0), -2);
        refused("lift(0, -1)", x -> x.lift(0, -1), -2);
        refused("steep(2)", x -> x.steep(2), -2);
        refused("jams(-1)", x -> x.jams(-1), -2);
        refused("covers(0, 61)", x -> x.covers(0, 61), -2);
        refused("turn(601)", x -> x.turn(601), -2);
        refused("turn(-601)", x -> x.turn(-601), -2);
        refused("turn(LOW)", x -> x.turn(LOW), -2);
        refused("turn(HIGH)", x -> x.turn(HIGH), -2);
        refused("follower(3, 0)", x -> x.follower(3, 0), -2);
        refused("follower(0, 5)", x -> x.follower(0, 5), -2);
        refused("stands(6)", x -> x.stands(6), -1);
        refused("pawl(1)", x -> x.pawl(1), -2);
        refused("steady(3, 0)", x -> x.steady(3, 0), -2);
        refused("leaves(0, 2)", x -> x.leaves(0, 2), -2);
        refused("spring(3)", x -> x.spring(3), -2);
        refused("clicks(1)", x -> x.clicks(1), -2);
        refused("wear(0, 61)", x -> x.wear(0, 61), -2);
        refused("wear(0, -1)", x -> x.wear(0, -1), -2);
        refused("wear(2, 3)", x -> x.wear(2, 3), -2);
        refused("wear(-1, 3)", x -> x.wear(-1, 3), -2);
        refused("breaks(2, true)", x -> x.breaks(2, true), -2);
        refused("breaks(-1, false)", x -> x.breaks(-1, false), -2);
        refused("nose(2, 0)", x -> x.nose(2, 0), -2);
        refused("nose(0, 6)", x -> x.nose(0, 6), -2);
        refused("meet(0, 0)", x -> x.meet(0, 0), -2);
        refused("meet(0, 2)", x -> x.meet(0, 2), -2);
        refused("heard(0, 0)", x -> x.heard(0, 0), -2);
        refused("heard(3, 1)", x -> x.heard(3, 1), -2);
        refused("margin(2, 0, 1)", x -> x.margin(2, 0, 1), -2);
        refused("margin(0, 3, 1)", x -> x.margin(0, 3, 1), -2);
        refused("margin(0, 0, 100)", x -> x.margin(0, 0, 100), -2);
        refused("years(-1, 1, 100)", x -> x.years(-1, 1, 100), -2);
        refused("years(2000000001, 1, 100)", x -> x.years(2000000001, 1, 100), -2);
        refused("years(1, 0, 100)", x -> x.years(1, 0, 100), -2);
        refused("years(1, 61, 100)", x -> x.years(1, 61, 100), -2);
        refused("years(1, 1, 101)", x -> x.years(1, 1, 101), -2);
        refused("years(1, 1, -1)", x -> x.years(1, 1, -1), -2);
        refused("until(0, 1, 1, 61, 100)", x -> x.until(0, 1, 1, 61, 100), -2);
        // What is answered in thought changes nothing either.
        Twin.alike("behind until", before.andThen(x -> x.until(0, 3, 1, 60, 100)), before);
        Twin.alike("behind margin", before.andThen(x -> x.margin(0, 0, 3)), before);
        Twin.alike("behind spare", before.andThen(x -> x.spare()), before);
        Twin.alike("behind meet", before.andThen(x -> x.meet(0, 1)), before);
        Twin.alike("behind turn(0)", before.andThen(x -> x.turn(0)), before);
        Twin.alike("behind years of no odds", before.andThen(x -> x.years(7, 60, 0)), before);
        Twin.alike("behind steady", before.andThen(x -> x.steady(1, 5)), before);
        Twin.alike("behind same", before.andThen(x -> x.same()), before);
    }

    private static void ofAMotion() {
        refused("rowAt(12)", x -> x.rowAt(12), -2);
        refused("cut(0, 1, 0)", x -> x.cut(0, 1, 0), -2);
        refused("cut(3, 0, 0)", x -> x.cut(3, 0, 0), -2);
        refused("cut(1, 10, 0)", x -> x.cut(1, 10, 0), -2);
        refused("cut(1, 1, 12)", x -> x.cut(1, 1, 12), -2);
        refused("brings(0, 1)", x -> x.brings(0, 1), -2);
        refused("brings(2, 10)", x -> x.brings(2, 10), -2);
        refused("widest(0)", x -> x.widest(0), -2);
        refused("widest(3)", x -> x.widest(3), -2);
        refused("hard(61)", x -> x.hard(61), -2);
        refused("differs(3)", x -> x.differs(3), -2);
        refused("phase(-1)", x -> x.phase(-1), -2);
        Twin.alike("behind brings", before.andThen(x -> x.brings(1, 3)), before);
        Twin.alike("behind widest", before.andThen(x -> x.widest(2)), before);
        Twin.alike("behind nearest", before.andThen(x -> x.nearest()), before);
    }

    private static void ofSlots() {
        refused("fewest(0)", x -> x.fewest(0), -6);
        refused("fewest(4)", x -> x.fewest(4), -2);
        refused("place(0, 0)", x -> x.place(0, 0), -6);
        refused("place(2, 3)", x -> x.place(2, 3), -2);
        refused("place(2, -1)", x -> x.place(2, -1), -2);
        refused("place(-1, 0)", x -> x.place(-1, 0), -2);
        refused("clash(1)", x -> x.clash(1), -6);
        refused("clash(4)", x -> x.clash(4), -2);
        refused("faults(0, 4, 3)", x -> x.faults(0, 4, 3), -6);
        refused("faults(0, 4, 4)", x -> x.faults(0, 4, 4), -2);
        refused("guess(0, 4, 3, 0)", x -> x.guess(0, 4, 3, 0), -6);
        refused("guess(0, 4, 2, 4)", x -> x.guess(0, 4, 2, 4), -2);
        refused("row(2, 0, 61)", x -> x.row(2, 0, 61), -2);
        refused("row(2, 4, 1)", x -> x.row(2, 4, 1), -2);
        refused("row(2, -1, 1)", x -> x.row(2, -1, 1), -2);
        refused("row(4, 0, 1)", x -> x.row(4, 0, 1), -2);
        refused("row(2, 0, -1)", x -> x.row(2, 0, -1), -3);
        refused("row(0, 0, -1)", x -> x.row(0, 0, -1), -3);
        refused("row(2, 3, LOW)", x -> x.row(2, 3, LOW), -3);
        refused("write(4, 0, 9)", x -> x.write(4, 0, 9), -2);
        refused("write(-1, 0, 9)", x -> x.write(-1, 0, 9), -2);
        refused("write(0, 0, 9)", x -> x.write(0, 0, 9), -6);
        refused("write(2, 3, 9)", x -> x.write(2, 3, 9), -7);
        refused("write(2, -1, 9)", x -> x.write(2, -1, 9), -7);
        refused("write(2, HIGH, 9)", x -> x.write(2, HIGH, 9), -7);
        refused("paste(2, 0, 2, 1, 3)", x -> x.paste(2, 0, 2, 1, 3), -7);
        refused("paste(2, 1, 2, 0, 3)", x -> x.paste(2, 1, 2, 0, 3), -7);
        refused("paste(2, 1, 2, 0, -1)", x -> x.paste(2, 1, 2, 0, -1), -7);
        refused("paste(2, -1, 2, 0, 2)", x -> x.paste(2, -1, 2, 0, 2), -7);
        refused("paste(2, 0, 2, -1, 2)", x -> x.paste(2, 0, 2, -1, 2), -7);
        refused("paste(2, 1, 2, 2, HIGH)", x -> x.paste(2, 1, 2, 2, HIGH), -7);
        refused("paste(2, HIGH, 2, 0, HIGH)", x -> x.paste(2, HIGH, 2, 0, HIGH), -7);
        refused("paste(2, 0, 3, 0, 1)", x -> x.paste(2, 0, 3, 0, 1), -6);
        refused("paste(3, 0, 2, 0, 1)", x -> x.paste(3, 0, 2, 0, 1), -6);
        refused("paste(2, 0, 4, 0, 1)", x -> x.paste(2, 0, 4, 0, 1), -2);
        refused("paste(4, 0, 2, 0, 1)", x -> x.paste(4, 0, 2, 0, 1), -2);
        Twin.alike("behind faults", before.andThen(x -> x.faults(0, 4, 2)), before);
        Twin.alike("behind guess", before.andThen(x -> x.guess(0, 4, 2, 1)), before);
        Twin.alike("behind place", before.andThen(x -> x.place(2, 1)), before);
        Consumer<NoseDrum> was = before;
        before = was.andThen(x -> Check.numbers(x, 3, 2, 7, 8, 9));
        refused("paste of two widths", x -> x.paste(2, 0, 3, 0, 1), -8);
        refused("paste of two widths back", x -> x.paste(3, 0, 2, 0, 3), -8);
        before = was.andThen(x -> Check.numbers(x, 3, 1, 7, 8, 9, 10));
        refused("paste beyond the other's row", x -> x.paste(3, 0, 2, 0, 4), -7);
        refused("paste beyond its own row", x -> x.paste(2, 0, 3, 0, 4), -7);
        before = was;
    }

    private static void ofImages() {
        refused("keep(3)", x -> x.keep(3), -2);
        refused("keep(-1)", x -> x.keep(-1), -2);
        refused("back(3)", x -> x.back(3), -2);
        refused("back(-1)", x -> x.back(-1), -2);
        refused("back(0)", x -> x.back(0), -6);
        refused("back(2)", x -> x.back(2), -6);
        refused("count(12)", x -> x.count(12), -1);
        refused("fault(2)", x -> x.fault(2), -1);
        refused("end(6)", x -> x.end(6), -1);
    }

    /** There is a drum and no motion: -6, but -2 where a number is wrong. */
    private static void withoutMotion() {
        refused("rowAt(0)", x -> x.rowAt(0), -6);
        refused("rowAt(11)", x -> x.rowAt(11), -6);
        refused("rowAt(12)", x -> x.rowAt(12), -2);
        refused("rowAt(-1)", x -> x.rowAt(-1), -2);
        refused("cut(0, 0, 0)", x -> x.cut(0, 0, 0), -6);
        refused("cut(2, 9, 11)", x -> x.cut(2, 9, 11), -6);
        refused("cut(0, 1, 0)", x -> x.cut(0, 1, 0), -2);
        refused("cut(3, 0, 0)", x -> x.cut(3, 0, 0), -2);
        refused("cut(1, 0, 12)", x -> x.cut(1, 0, 12), -2);
        refused("brings(1, 9)", x -> x.brings(1, 9), -6);
        refused("brings(1, 10)", x -> x.brings(1, 10), -2);
        refused("brings(0, 1)", x -> x.brings(0, 1), -2);
        refused("widest(1)", x -> x.widest(1), -6);
        refused("widest(2)", x -> x.widest(2), -6);
        refused("widest(0)", x -> x.widest(0), -2);
        refused("hard(0)", x -> x.hard(0), -6);
        refused("hard(60)", x -> x.hard(60), -6);
        refused("hard(61)", x -> x.hard(61), -2);
        refused("differs(2)", x -> x.differs(2), -6);
        refused("differs(3)", x -> x.differs(3), -2);
        refused("phase(0)", x -> x.phase(0), -6);
        refused("phase(3)", x -> x.phase(3), -2);
        refused("nearest()", x -> x.nearest(), -6);
    }

    /** All that needs a drum is -2 without one, what needs a motion or a row, too. */
    private static void withoutDrum() {
        refused("profile", x -> x.profile(0, 0), -2);
        refused("lift", x -> x.lift(0, 0), -2);
        refused("steep", x -> x.steep(0), -2);
        refused("jams", x -> x.jams(0), -2);
        refused("covers", x -> x.covers(0, 0), -2);
        refused("turn(0)", x -> x.turn(0), -2);
        refused("turn(1)", x -> x.turn(1), -2);
        refused("turn(-600)", x -> x.turn(-600), -2);
        refused("follower", x -> x.follower(0, 0), -2);
        refused("pawl", x -> x.pawl(0), -2);
        refused("steady", x -> x.steady(0, 0), -2);
        refused("leaves", x -> x.leaves(0, 0), -2);
        refused("spring", x -> x.spring(0), -2);
        refused("work", x -> x.work(), -2);
        refused("clicks", x -> x.clicks(0), -2);
        refused("same", x -> x.same(), -2);
        refused("wear", x -> x.wear(0, 0), -2);
        refused("breaks", x -> x.breaks(0, true), -2);
        refused("nose", x -> x.nose(0, 0), -2);
        refused("spare", x -> x.spare(), -2);
        refused("meet", x -> x.meet(0, 1), -2);
        refused("rowAt", x -> x.rowAt(0), -2);
        refused("cut", x -> x.cut(0, 0, 0), -2);
        refused("brings", x -> x.brings(0, 0), -2);
        refused("widest", x -> x.widest(1), -2);
        refused("hard", x -> x.hard(0), -2);
        refused("differs", x -> x.differs(0), -2);
        refused("phase", x -> x.phase(0), -2);
        refused("nearest", x -> x.nearest(), -2);
        refused("fewest of a row", x -> x.fewest(0), -2);
        refused("fewest of none", x -> x.fewest(1), -2);
        refused("place of a row", x -> x.place(0, 0), -2);
        refused("place of none", x -> x.place(1, 0), -2);
        refused("clash of a row", x -> x.clash(0), -2);
        refused("clash of none", x -> x.clash(1), -2);
        refused("heard", x -> x.heard(0, 1), -2);
        refused("faults of a row", x -> x.faults(0, 1, 0), -2);
        refused("faults of none", x -> x.faults(0, 1, 1), -2);
        refused("guess of a row", x -> x.guess(0, 1, 0, 0), -2);
        refused("guess of none", x -> x.guess(0, 1, 1, 0), -2);
        refused("margin", x -> x.margin(0, 0, 1), -2);
        refused("years", x -> x.years(1, 1, 1), -2);
        refused("until", x -> x.until(0, 1, 1, 1, 1), -2);
        refused("back(0)", x -> x.back(0), -6);
    }

    /** Where two things are wrong: what is asked first. */
    private static void twoReasons() {
        NoseDrum x = new NoseDrum();
        drumAlone(x);
        // Slot 0 has a row, slot 1 nothing, slot 2 a row of none, slot 3 a number that is neither steps nor a step.
        x.row(2, 0, 0);
        Check.numbers(x, 3, 1, 5, 99);
        Check.due("faults: no follower, nothing", x.faults(9, 4, 1), -2);
        Check.due("faults: no height, nothing", x.faults(0, 0, 1), -2);
        Check.due("faults: nothing", x.faults(0, 4, 1), -6);
        Check.due("faults: no step, last of all", x.faults(0, 4, 3), -2);
        Check.due("faults: a row of none is one", x.faults(0, 4, 2) >= 0 ? 1 : 0, 1);
        Check.due("guess: no follower, nothing", x.guess(9, 4, 1, 0), -2);
        Check.due("guess: no height, nothing", x.guess(0, 100, 1, 0), -2);
        Check.due("guess: no what, nothing", x.guess(0, 4, 1, 4), -2);
        Check.due("guess: nothing", x.guess(0, 4, 1, 3), -6);
        Check.due("guess: no step", x.guess(0, 4, 3, 3), -2);
        Check.due("guess: a row of none is one", x.guess(0, 4, 2, 2) >= 0 ? 1 : 0, 1);
        Check.due("fewest: a row of none", x.fewest(2), -6);
        Check.due("clash: a row of none", x.clash(2), -6);
        Check.due("place: a row of none", x.place(2, 0), -6);
        Check.due("row: no slot, below 0", x.row(4, 0, -1), -2);
        Check.due("row: no width, below 0", x.row(0, 4, -1), -2);
        Check.due("row: no slot, above 60", x.row(-1, 0, 61), -2);
        Check.due("write: no slot, no number", x.write(4, -1, 0), -2);
        Check.due("write: nothing, no number", x.write(1, -1, 0), -6);
        Check.due("write: nothing, no number", x.write(1, 99, 0), -6);
        Check.due("paste: no slot, nothing", x.paste(1, 0, 4, 0, 0), -2);
        Check.due("paste: no slot, beyond", x.paste(0, 99, -1, 0, 9), -2);
        Check.due("paste: nothing, two widths, beyond", x.paste(3, 99, 1, -1, -9), -6);
        Check.due("paste: nothing, beyond", x.paste(1, -1, 0, 0, 1), -6);
        Check.due("paste: two widths, beyond", x.paste(3, 99, 0, -1, 9), -8);
        Check.due("paste: two widths, n below 0", x.paste(0, 0, 3, 0, -1), -8);
        Check.due("paste: two widths, none", x.paste(0, 0, 3, 0, 0), -8);
        Check.due("paste: beyond", x.paste(0, 2, 2, 0, 1), -7);
        Check.due("back: no image", x.back(3), -2);
    }
}
