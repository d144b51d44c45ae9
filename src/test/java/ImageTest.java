/** Promises 44 to 49: counts, images gone back to, slots. */
public final class ImageTest {
    private static final String DRUM = "drum steps 12 jam 5 slack 2; track;"
        + "nose on 0 at 2 wide 2 high 6 steep 2; nose on 0 at 8 wide 1 high 2 steep 2;"
        + "knife on 0 spring 1 lag 2; lever on 0 3 over 2; pawl on 0 at 5 teeth 9; gear 3 to 2;";

    public static void main(String[] args) {
        counts();
        images();
        imageOfNothing();
        rows();
        writes();
        pastes();
        Check.finish();
    }

    private static void counts() {
        NoseDrum x = Check.drumOf(DRUM, 8);
        int[] want = {12, 1, 2, 2, 1, 8, 0, 5, 2, 0, 0, 0};
        for (int what = 0; what < want.length; what++) {
            Check.due("count(" + what + ")", x.count(what), want[what]);
        }
        Check.due("count(12)", x.count(12), -1);
        Check.due("count(-1)", x.count(-1), -1);
        x.row(1, 0, 0);
        x.row(3, 0, 5);
        Check.due("two slots have rows", x.count(11), 2);
        x.row(3, 1, 4);
        Check.due("still two", x.count(11), 2);
        x.breaks(1, true);
        Check.due("broken bits", x.count(10), 2);
        x.motion();
        Check.due("a motion", x.count(9), 1);
        x.feed(0, 0, 0, 0, 0);
        Check.due("tape", x.count(6), 20);
    }

    private static String all(NoseDrum x) {
        StringBuilder all = new StringBuilder();
        for (int what = 0; what <= 10; what++) {
            all.append(what == 6 ? 0 : x.count(what)).append(' ');
        }
        for (int what = 0; what <= 5; what++) {
            all.append(x.stands(what)).append(' ').append(x.nose(0, what)).append(' ').append(x.nose(1, what)).append(' ');
        }
        for (int f = 0; f < 3; f++) {
            for (int what = 0; what <= 4; what++) {
                all.append(x.follower(f, what)).append(' ');
            }
        }
        for (int s = 0; s < 13; s++) {
            all.append(x.rowAt(s)).append(' ').append(x.steady(0, s)).append(' ').append(x.profile(0, s)).append(' ');
        }
        return all.append(x.pawl(0)).append(' ').append(x.same()).append(' ').append(x.work()).toString();
    }

    private static void same(String what, String got, String want) {
        Check.due(what + ": " + got + " for " + want, got.equals(want) ? 1 : 0, 1);
    }

    private static void images() {
        NoseDrum x = Check.drumOf(DRUM, 8);
        Check.due("back(0) of nothing", x.back(0), -6);
        Check.due("back(2) of nothing", x.back(2), -6);
        Check.due("back(3)", x.back(3), -2);
        Check.due("back(-1)", x.back(-1), -2);
        Check.due("keep(3)", x.keep(3), -2);
        Check.due("keep(-1)", x.keep(-1), -2);
        x.turn(3);
        x.turn(-1);
        Check.motionOf(x, "up 3; hold 2; down 1;", 4);
        x.wear(0, 1);
        String first = all(x);
        Check.due("keep(0)", x.keep(0), 0);
        x.turn(5);
        x.breaks(1, true);
        x.wear(0, 3);
        Check.motionOf(x, "up 9;", 1);
        String second = all(x);
        Check.due("keep(2)", x.keep(2), 0);
        Check.due("back(1) of nothing", x.back(1), -6);
        Check.tell(x, "drum steps 30 jam 9 slack 9; track; track; nose on 1 at 29 wide 9 high 50 steep 3; flat 3 on 1 spring 3 lag 0;");
        x.drum();
        x.turn(9);
        Check.tell(x, "abc");
        Check.due("a faulty drum", x.drum(), -4);
        x.row(0, 0, 3);
        Check.due("back(0)", x.back(0), 0);
        same("image 0", all(x), first);
        Check.due("the tape stays", x.count(6), 3);
        Check.due("the fault stays", x.fault(0), 1);
        Check.due("its place stays", x.fault(1), 0);
        Check.due("slots stay", x.count(11), 1);
        x.turn(40);
        Check.due("back(2)", x.back(2), 0);
        same("image 2", all(x), second);
        x.turn(600);
        x.years(3, 60, 50);
        Check.due("back(2)", x.back(2), 0);
        same("image 2 again", all(x), second);
        Check.due("keep(0) anew", x.keep(0), 0);
        x.turn(7);
        Check.due("back(0)", x.back(0), 0);
        same("image 0 anew", all(x), second);

        // What was kept goes on as it would have gone on: slack, what is moved late, pawls.
        NoseDrum y = Check.drumOf(DRUM, 8);
        y.turn(3);
        y.turn(-1);
        y.keep(1);
        y.turn(-30);
        String on = all(y);
        y.turn(77);
        y.back(1);
        y.turn(-30);
        same("going on", all(y), on);
    }

    private static void imageOfNothing() {
        NoseDrum x = new NoseDrum();
        Check.due("keep(1) without a drum", x.keep(1), 0);
        Check.tell(x, DRUM);
        Check.due("drum()", x.drum(), 8);
        Check.due("back(1)", x.back(1), 0);
        Check.due("no drum", x.count(0), 0);
        Check.due("no turn", x.turn(1), -2);
    }

    private static void rows() {
        NoseDrum x = new NoseDrum();
        Check.due("row(4, 0, 1)", x.row(4, 0, 1), -2);
        Check.due("row(-1, 0, 1)", x.row(-1, 0, 1), -2);
        Check.due("row(0, 4, 1)", x.row(0, 4, 1), -2);
        Check.due("row(0, -1, 1)", x.row(0, -1, 1), -2);
        Check.due("row(0, 0, 61)", x.row(0, 0, 61), -2);
        Check.due("row(0, 0, -1)", x.row(0, 0, -1), -3);
        Check.due("row(0, 0, min)", x.row(0, 0, Integer.MIN_VALUE), -3);
        Check.due("row(4, 0, -1)", x.row(4, 0, -1), -2);
        Check.due("row(0, 4, -1)", x.row(0, 4, -1), -2);
        Check.due("none has a row", x.count(11), 0);
        Check.due("row(0, 3, 60)", x.row(0, 3, 60), 0);
        Check.due("row(3, 0, 0)", x.row(3, 0, 0), 0);
        Check.due("write(0, 59, 7)", x.write(0, 59, 7), 0);
        Check.due("row(0, 3, -1)", x.row(0, 3, -1), -3);
        Check.due("the slot stays", x.write(0, 59, 7), 0);
        Check.due("the slot stays", x.count(11), 2);

        // A new row is all 0, and 0 is a number of steps that no motion has.
        NoseDrum y = Check.drumOf(DRUM, 8);
        Check.numbers(y, 0, 0, 3, 4);
        Check.due("fewest", y.fewest(0), 1);
        Check.due("row in place of it", y.row(0, 0, 2), 0);
        Check.due("fewest of 0", y.fewest(0), -2);
        Check.due("row below 0", y.row(0, 0, -1), -3);
        Check.due("write", y.write(0, 0, 3), 0);
        Check.due("write", y.write(0, 1, 12), 0);
        Check.due("fewest", y.fewest(0), 2);
    }

    private static void writes() {
        NoseDrum x = Check.drumOf(DRUM, 8);
        Check.due("write(4, ..)", x.write(4, 0, 0), -2);
        Check.due("write(-1, ..)", x.write(-1, 0, 0), -2);
        Check.due("write to nothing", x.write(0, 0, 0), -6);
        Check.due("write to nothing", x.write(0, -1, 0), -6);
        x.row(0, 0, 2);
        Check.due("write(0, 2, ..)", x.write(0, 2, 0), -7);
        Check.due("write(0, -1, ..)", x.write(0, -1, 0), -7);
        x.row(1, 0, 0);
        Check.due("write(1, 0, ..)", x.write(1, 0, 0), -7);
        // Cut to its width, a number is 5 again.
        long[] above = {1L << 8, 1L << 16, 1L << 32};
        for (int width = 0; width < 3; width++) {
            Check.numbers(x, 2, width, above[width] + 5);
            Check.due("cut", x.fewest(2), 1);
            Check.numbers(x, 2, width + 1, above[width] + 5);
            Check.due("not cut", x.fewest(2), -2);
        }
    }

    private static void fivesDue(NoseDrum x, int slot, int... want) {
        for (int i = 0; i < want.length; i++) {
            // Each number alone: pasted behind a slot of its own, where it is a motion's steps.
            x.row(3, 0, 1);
            Check.due("paste of one", x.paste(slot, i, 3, 0, 1), 0);
            Check.numbers(x, 2, 0, 12 - want[i], 0);
            x.paste(3, 0, 2, 1, 1);
            Check.due("no more than " + want[i], x.fewest(2), 1);
            Check.numbers(x, 2, 0, 13 - want[i], 0);
            x.paste(3, 0, 2, 1, 1);
            Check.due("no less than " + want[i], x.fewest(2), 2);
        }
    }

    private static void pastes() {
        NoseDrum x = Check.drumOf(DRUM, 8);
        Check.due("paste from no slot", x.paste(4, 0, 0, 0, 0), -2);
        Check.due("paste to no slot", x.paste(0, 0, -1, 0, 0), -2);
        Check.due("paste from nothing", x.paste(0, 0, 1, 0, 0), -6);
        Check.numbers(x, 0, 0, 1, 2, 3, 4, 5);
        Check.due("paste to nothing", x.paste(0, 0, 1, 0, 0), -6);
        Check.due("paste from nothing", x.paste(1, -1, 0, 0, 0), -6);
        x.row(1, 1, 5);
        Check.due("paste of two widths", x.paste(0, 0, 1, 0, 9), -8);
        Check.numbers(x, 1, 0, 6, 7, 8);
        Check.due("paste beyond its row", x.paste(0, 3, 1, 0, 3), -7);
        Check.due("paste beyond the other's", x.paste(0, 0, 1, 1, 3), -7);
        Check.due("paste from below 0", x.paste(0, -1, 1, 0, 1), -7);
        Check.due("paste to below 0", x.paste(0, 0, 1, -1, 1), -7);
        Check.due("paste of less than 0", x.paste(0, 0, 1, 0, -1), -7);
        Check.due("paste of far too many", x.paste(0, 1, 1, 1, Integer.MAX_VALUE), -7);
        Check.due("paste from far beyond", x.paste(0, Integer.MAX_VALUE, 1, 1, 1), -7);
        Check.due("paste of none beyond", x.paste(0, 6, 1, 0, 0), -7);
        fivesDue(x, 1, 6, 7, 8);
        fivesDue(x, 0, 1, 2, 3, 4, 5);
        Check.due("paste of none at the end", x.paste(0, 5, 1, 3, 0), 0);
        Check.due("paste", x.paste(0, 3, 1, 1, 2), 0);
        fivesDue(x, 1, 6, 4, 5);
        Check.due("paste onto itself, up", x.paste(0, 0, 0, 1, 4), 0);
        fivesDue(x, 0, 1, 1, 2, 3, 4);
        Check.due("paste onto itself, down", x.paste(0, 2, 0, 0, 3), 0);
        fivesDue(x, 0, 2, 3, 4, 3, 4);
        Check.due("write behind a paste", x.write(0, 0, 9), 0);
        fivesDue(x, 1, 6, 4, 5);
    }
}
