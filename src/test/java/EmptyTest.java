/** What is empty: no drum, a drum of its first line alone, no noses, no followers, no motion, no row, no numbers, no image. */
public final class EmptyTest {
    private static final String LINE = "drum steps 12 jam 5 slack 2;";

    public static void main(String[] args) {
        newObject(new NoseDrum());
        emptyTape();
        drumOfNothing();
        drumLineAlone();
        trackWithoutNoses();
        followersWithoutNoses();
        nosesWithoutFollowers();
        wornOff();
        emptyMotion();
        actsOfNothing();
        emptySlots();
        rowOfNone();
        emptyImages();
        imageOfNoDrum();
        imageWithoutMotion();
        Check.finish();
    }

    private static void due(String call, long got, long want) {
        Check.due(call, got, want);
    }

    /** All calls of an object without a drum; its tape, slots and images may have something. */
    private static void noDrum(NoseDrum x) {
        for (int what = 0; what <= 10; what++) {
            due("count(" + what + ")", x.count(what), what == 6 ? x.count(6) : 0);
        }
        for (int what = 0; what <= 5; what++) {
            due("stands(" + what + ")", x.stands(what), 0);
        }
        due("stands(6)", x.stands(6), -1);
        due("stands(-1)", x.stands(-1), -1);
        due("count(12)", x.count(12), -1);
        due("profile", x.profile(0, 0), -2);
        due("lift", x.lift(0, 0), -2);
        due("steep", x.steep(0), -2);
        due("jams", x.jams(0), -2);
        due("covers", x.covers(0, 0), -2);
        due("turn(0)", x.turn(0), -2);
        due("turn(1)", x.turn(1), -2);
        due("turn(-1)", x.turn(-1), -2);
        for (int what = 0; what <= 4; what++) {
            due("follower", x.follower(0, what), -2);
        }
        due("pawl", x.pawl(0), -2);
        due("steady", x.steady(0, 0), -2);
        due("leaves", x.leaves(0, 0), -2);
        due("spring", x.spring(0), -2);
        due("work", x.work(), -2);
        due("clicks", x.clicks(0), -2);
        due("same", x.same(), -2);
        due("wear", x.wear(0, 0), -2);
        due("breaks", x.breaks(0, false), -2);
        for (int what = 0; what <= 5; what++) {
            due("nose", x.nose(0, what), -2);
        }
        due("spare", x.spare(), -2);
        due("meet", x.meet(0, 1), -2);
        due("rowAt", x.rowAt(0), -2);
        due("cut", x.cut(0, 0, 0), -2);
        due("brings", x.brings(0, 0), -2);
        due("widest", x.widest(2), -2);
        due("hard", x.hard(0), -2);
        due("differs", x.differs(0), -2);
        due("phase", x.phase(0), -2);
        due("nearest", x.nearest(), -2);
        for (int slot = 0; slot < 4; slot++) {
            due("fewest", x.fewest(slot), -2);
            due("place", x.place(slot, 0), -2);
            due("clash", x.clash(slot), -2);
            due("faults", x.faults(0, 1, slot), -2);
            due("guess", x.guess(0, 1, slot, 0), -2);
        }
        due("heard", x.heard(0, 1), -2);
        due("margin", x.margin(0, 0, 1), -2);
        due("years", x.years(0, 1, 0), -2);
        due("until", x.until(0, 1, 0, 1, 0), -2);
    }

    private static void newObject(NoseDrum x) {
        noDrum(x);
        due("the tape is empty", x.count(6), 0);
        due("no slot has a row", x.count(11), 0);
        due("fault(0)", x.fault(0), 0);
        due("fault(1)", x.fault(1), -1);
        due("end(0)", x.end(0), 0);
        due("end(1)", x.end(1), -1);
        due("motion()", x.motion(), -2);
        for (int k = 0; k < 3; k++) {
            due("back", x.back(k), -6);
        }
        for (int slot = 0; slot < 4; slot++) {
            due("write", x.write(slot, 0, 1), -6);
            due("paste", x.paste(slot, 0, slot, 0, 0), -6);
        }
        noDrum(x);
    }

    /** An empty tape, or one of blanks alone, is a drum of no lines: there is none. */
    private static void emptyTape() {
        for (String text : new String[] {"", " ", "\n", "  \n \n", " ".repeat(1600)}) {
            NoseDrum x = new NoseDrum();
            Check.tell(x, text);
            due("drum() of blanks", x.drum(), 0);
            due("fault(0)", x.fault(0), 0);
            due("fault(1)", x.fault(1), -1);
            newObject(x);
            x = Check.drumOf(LINE, 1);
            Check.tell(x, text);
            due("motion() of blanks", x.motion(), 0);
            due("fault(0)", x.fault(0), 0);
            due("a motion", x.count(9), 1);
            due("the tape is empty", x.count(6), 0);
        }
    }

    /** It takes the place of a drum that was, with its motion. */
    private static void drumOfNothing() {
        NoseDrum x = new NoseDrum();
        Twin.stirred(x);
        due("an empty drum()", x.drum(), 0);
        noDrum(x);
        due("the slots stay", x.count(11), 1);
        due("an image stays", x.back(1), 0);
        due("it is as it was", x.count(5), 10);
        due("its motion, too", x.count(9), 1);
    }

    private static void drumLineAlone() {
        NoseDrum x = Check.drumOf(LINE, 1);
        int[] counts = {12, 0, 0, 0, 0, 1, 0, 5, 2, 0, 0, 0};
        for (int what = 0; what < counts.length; what++) {
            due("count(" + what + ")", x.count(what), counts[what]);
        }
        due("profile(0, 0)", x.profile(0, 0), -2);
        due("lift(0, 0)", x.lift(0, 0), -2);
        due("steep(0)", x.steep(0), -2);
        due("jams(0)", x.jams(0), -2);
        due("covers(0, 0)", x.covers(0, 0), -2);
        due("follower(0, 0)", x.follower(0, 0), -2);
        due("pawl(0)", x.pawl(0), -2);
        due("steady(0, 0)", x.steady(0, 0), -2);
        due("leaves(0, 0)", x.leaves(0, 0), -2);
        due("spring(0)", x.spring(0), -2);
        due("clicks(0)", x.clicks(0), -2);
        due("wear(0, 0)", x.wear(0, 0), -2);
        due("breaks(0, true)", x.breaks(0, true), -2);
        due("nose(0, 0)", x.nose(0, 0), -2);
        due("meet(0, 1)", x.meet(0, 1), -2);
        due("differs(0)", x.differs(0), -2);
        due("phase(0)", x.phase(0), -2);
        due("heard(0, 1)", x.heard(0, 1), -2);
        due("margin(0, 0, 1)", x.margin(0, 0, 1), -2);
        due("until", x.until(0, 1, 0, 1, 0), -2);
        x.row(0, 0, 1);
        due("faults(0, 1, 0)", x.faults(0, 1, 0), -2);
        due("guess(0, 1, 0, 0)", x.guess(0, 1, 0, 0), -2);
        due("work()", x.work(), 0);
        due("same()", x.same(), 1);
        due("spare()", x.spare(), 0);
        due("years", x.years(7, 60, 100), 0);
        due("nearest() without a motion", x.nearest(), -6);
        due("rowAt(0) without a motion", x.rowAt(0), -6);
        due("turn(600)", x.turn(600), 600);
        due("turn(-600)", x.turn(-600), 600);
        due("ANGLE", x.stands(0), 2);
        due("STEPS", x.stands(1), 1200);
        due("WORK", x.stands(2), 0);
        due("jams", x.stands(5), 0);
        Check.motionFault(x, 2, "if ^0 above 0 {}");
        Check.motionOf(x, "up 3;", 1);
        due("rowAt(11)", x.rowAt(11), 3);
        due("nearest() without followers", x.nearest(), -1);
        x.write(0, 0, 12);
        due("fewest(0)", x.fewest(0), 1);
    }

    private static void trackWithoutNoses() {
        NoseDrum x = Check.drumOf(LINE + "track;", 2);
        for (int s = 0; s < 12; s++) {
            due("profile(0, " + s + ")", x.profile(0, s), 0);
        }
        due("steep(0)", x.steep(0), 0);
        due("covers(0, 0)", x.covers(0, 0), 0);
        due("covers(0, 60)", x.covers(0, 60), 0);
        due("nose(0, 0)", x.nose(0, 0), -2);
        due("spare()", x.spare(), 0);
    }

    private static void silent(NoseDrum x, int followers) {
        for (int f = 0; f < followers; f++) {
            for (int s = 0; s < 12; s++) {
                due("lift(" + f + ", " + s + ")", x.lift(f, s), 0);
                due("steady(" + f + ", " + s + ")", x.steady(f, s), 0);
            }
            due("jams", x.jams(f), -1);
            due("leaves", x.leaves(f, 0), 0);
            due("leaves first", x.leaves(f, 1), -1);
            due("spring", x.spring(f), f == followers - 1 ? -1 : 1);
            due("heard", x.heard(f, 1), 0);
            due("heard", x.heard(f, 99), 0);
            due("until", x.until(f, 1, 0, 60, 100), -1);
        }
        due("work()", x.work(), 0);
        due("clicks(0)", x.clicks(0), 0);
        due("same()", x.same(), 1);
        due("turn(600)", x.turn(600), 600);
        due("WORK", x.stands(2), 0);
        due("pawl(0)", x.pawl(0), 0);
        for (int f = 0; f < followers; f++) {
            due("POS", x.follower(f, 0), 0);
            due("MOVED", x.follower(f, 1), 0);
            due("LIFT", x.follower(f, 2), 0);
            due("JAMMED", x.follower(f, 4), 0);
        }
    }

    private static final String FOUR = "knife on 0 spring 1 lag 0;roller 9 on 0 spring 1 lag 20;flat 9 on 0 spring 60 lag 1;lever on 2 9 over 1;"
        + "pawl on 3 at 1 teeth 2;";

    private static void followersWithoutNoses() {
        NoseDrum x = Check.drumOf(LINE + "track;" + FOUR, 7);
        silent(x, 4);
        x.row(0, 0, 0);
        due("faults of nothing heard", x.faults(0, 1, 0), 1);
        due("broken", x.guess(0, 1, 0, 0), 0);
        due("worn", x.guess(0, 1, 0, 1), 0);
        due("nothing", x.guess(0, 1, 0, 2), 1);
        due("least", x.guess(0, 1, 0, 3), 0);
        Check.numbers(x, 0, 0, 3);
        due("faults of what can't be heard", x.faults(0, 1, 0), 0);
        due("broken", x.guess(0, 1, 0, 0), 0);
        due("worn", x.guess(0, 1, 0, 1), 0);
        due("nothing", x.guess(0, 1, 0, 2), 0);
        due("least", x.guess(0, 1, 0, 3), 0);
        due("margin of no nose", x.margin(0, 0, 1), -2);
    }

    private static void nosesWithoutFollowers() {
        NoseDrum x = Check.drumOf(LINE + "track;nose on 0 at 11 wide 2 high 9 steep 3;", 3);
        due("profile(0, 0)", x.profile(0, 0), 9);
        due("work()", x.work(), 0);
        due("nothing jams", x.turn(24), 24);
        due("heard(0, 1)", x.heard(0, 1), -2);
        due("margin(0, 0, 1)", x.margin(0, 0, 1), -2);
        due("years", x.years(0, 60, 100), 9);
        due("worn off", x.nose(0, 3), 0);
        x.motion();
        due("nearest()", x.nearest(), -1);
    }

    /** Noses that are worn off or broken are as none. */
    private static void wornOff() {
        NoseDrum x = Check.drumOf(LINE + "track;nose on 0 at 11 wide 2 high 9 steep 3;nose on 0 at 3 wide 12 high 4 steep 1;" + FOUR, 9);
        x.wear(0, 9);
        x.breaks(1, true);
        x.turn(600);
        x.keep(0);
        due("POS comes down by the spring", x.follower(0, 0), 0);
        due("spare: both", x.spare(), 3);
        due("meet", x.meet(0, 1), 0);
        due("steep", x.steep(0), 0);
        due("covers", x.covers(0, 0), 0);
        NoseDrum y = Check.drumOf(LINE + "track;nose on 0 at 11 wide 2 high 9 steep 3;nose on 0 at 3 wide 12 high 4 steep 1;" + FOUR, 9);
        y.wear(0, 60);
        y.wear(1, 60);
        for (int s = 0; s < 12; s++) {
            due("profile", y.profile(0, s), 0);
            due("steady", y.steady(3, s), 0);
        }
        due("years: nothing is left to be worn", y.years(3, 60, 100), 0);
        due("until: nothing is heard for ever", y.until(0, 1, 3, 60, 100), -1);
    }

    private static void emptyMotion() {
        NoseDrum x = Check.drumOf(LINE + "track;" + FOUR, 7);
        due("count(9)", x.count(9), 0);
        due("motion()", x.motion(), 0);
        due("count(9)", x.count(9), 1);
        for (int s = 0; s < 12; s++) {
            due("rowAt(" + s + ")", x.rowAt(s), 0);
            for (int n = 0; n <= 9; n++) {
                due("cut of a roller", x.cut(1, n, s), 0);
                due("cut of a flat", x.cut(2, n, s), 0);
            }
            due("cut of a knife", x.cut(0, 0, s), 0);
        }
        for (int n = 0; n <= 9; n++) {
            due("brings of a roller", x.brings(1, n), -1);
            due("brings of a flat", x.brings(2, n), -1);
        }
        due("brings of a knife", x.brings(0, 0), -1);
        due("widest roller", x.widest(1), 9);
        due("widest flat", x.widest(2), 9);
        for (int what = 0; what <= 60; what++) {
            due("hard(" + what + ")", x.hard(what), -1);
        }
        for (int f = 0; f < 4; f++) {
            due("differs", x.differs(f), -1);
            due("phase", x.phase(f), 0);
        }
        due("nearest: the first of several", x.nearest(), 0);
        // In place of a motion that was, every step of it is 0 again.
        Check.motionOf(x, "times 60 { up 60; }", 11);
        due("motion()", x.motion(), 0);
        for (int s = 0; s < 12; s++) {
            due("rowAt(" + s + ") again", x.rowAt(s), 0);
        }
        // A drum anew has none.
        Check.tell(x, LINE);
        due("drum()", x.drum(), 1);
        due("count(9)", x.count(9), 0);
        due("rowAt(0)", x.rowAt(0), -6);
    }

    private static void actsOfNothing() {
        NoseDrum x = Check.drumOf(LINE + "track;nose on 0 at 0 wide 12 high 5 steep 1;" + FOUR, 8);
        Check.motionOf(x, "times 60 {}", 0);
        Check.motionOf(x, "if 0 above 4 {}", 0);
        Check.motionOf(x, "if 0 above 5 {}", 0);
        Check.motionOf(x, "times 2 { if 0 above 4 {} times 60 {} } up 7;", 1);
        due("rowAt(1)", x.rowAt(1), 7);
        due("rowAt(11)", x.rowAt(11), 7);
        Check.motionOf(x, "if 0 above 5 { up 1; } if 0 above 4 { if 0 above 5 { up 1; } up 2; }", 1);
        due("rowAt(1)", x.rowAt(1), 2);
        Check.motionOf(x, "down 60;", 1);
        due("0 at least", x.rowAt(1), 0);
        Check.motionOf(x, "up 0;up 0;", 2);
        due("rowAt(2)", x.rowAt(2), 0);
    }

    private static void emptySlots() {
        NoseDrum x = Check.drumOf(LINE + "track;" + FOUR, 7);
        due("count(11)", x.count(11), 0);
        for (int slot = 0; slot < 4; slot++) {
            due("fewest", x.fewest(slot), -6);
            due("place", x.place(slot, 0), -6);
            due("clash", x.clash(slot), -6);
            due("faults", x.faults(0, 1, slot), -6);
            for (int what = 0; what <= 3; what++) {
                due("guess", x.guess(0, 1, slot, what), -6);
            }
            due("write", x.write(slot, 0, 1), -6);
            due("paste from it", x.paste(slot, 0, slot, 0, 0), -6);
        }
        x.row(1, 0, 1);
        due("paste from nothing", x.paste(0, 0, 1, 0, 1), -6);
        due("paste to nothing", x.paste(1, 0, 0, 0, 1), -6);
        due("paste of none from nothing", x.paste(0, 0, 1, 0, 0), -6);
        due("the others have nothing still", x.count(11), 1);
        // A drum anew and an image leave the slots.
        Check.tell(x, LINE);
        x.drum();
        due("count(11)", x.count(11), 1);
    }

    /** A row of no numbers is a row: it has a width, and nothing is heard by it. */
    private static void rowOfNone() {
        NoseDrum x = Check.drumOf(LINE + "track;nose on 0 at 3 wide 1 high 2 steep 9;knife on 0 spring 60 lag 0;", 4);
        for (int slot = 0; slot < 4; slot++) {
            due("row", x.row(slot, slot, 0), 0);
            due("count(11)", x.count(11), slot + 1);
            due("fewest", x.fewest(slot), -6);
            due("place", x.place(slot, 0), -6);
            due("clash", x.clash(slot), -6);
            due("write", x.write(slot, 0, 1), -7);
            due("paste of none", x.paste(slot, 0, slot, 0, 0), 0);
            due("paste of one", x.paste(slot, 0, slot, 0, 1), -7);
            due("paste behind it", x.paste(slot, 1, slot, 0, 0), -7);
            // Silent if the nose is broken, or worn by 1 or 2 at height 2.
            due("faults", x.faults(0, 2, slot), 3);
            due("broken", x.guess(0, 2, slot, 0), 1);
            due("worn", x.guess(0, 2, slot, 1), 1);
            due("nothing", x.guess(0, 2, slot, 2), 0);
            due("least", x.guess(0, 2, slot, 3), 1);
            due("faults above it", x.faults(0, 3, slot), 1 + 1 + 2);
            due("nothing", x.guess(0, 3, slot, 2), 1);
        }
        due("paste of two widths", x.paste(0, 0, 1, 0, 0), -8);
        // In place of a row of numbers.
        Check.numbers(x, 0, 0, 1, 2);
        due("fewest", x.fewest(0), 1);
        due("row of none", x.row(0, 0, 0), 0);
        due("fewest", x.fewest(0), -6);
        due("write", x.write(0, 0, 1), -7);
    }

    private static void emptyImages() {
        NoseDrum x = new NoseDrum();
        Twin.stirred(x);
        due("back(0)", x.back(0), -6);
        due("back(2)", x.back(2), -6);
        due("back(1)", x.back(1), 0);
        due("back(0) still", x.back(0), -6);
        x.keep(0);
        due("back(0) then", x.back(0), 0);
        due("back(2) still", x.back(2), -6);
        due("it is as it was", x.count(5), 10);
    }

    /** An image that was kept without a drum has that: going back there is none. */
    private static void imageOfNoDrum() {
        for (int k = 0; k < 3; k++) {
            int image = k;
            NoseDrum x = new NoseDrum();
            due("keep", x.keep(k), 0);
            Check.tell(x, Twin.WHOLE);
            due("drum()", x.drum(), 10);
            Check.motionOf(x, "up 9;", 1);
            x.turn(5);
            Check.numbers(x, 2, 0, 1);
            Check.tell(x, "up 2;");
            due("back", x.back(k), 0);
            noDrum(x);
            due("the tape stays", x.count(6), 5);
            due("the slots stay", x.count(11), 1);
            due("motion()", x.motion(), -2);
            Twin.alike("a drum behind it", y -> {
                y.keep(image);
                Twin.stirred(y);
                y.back(image);
                Twin.stirred(y);
            }, y -> {
                y.keep(image);
                Twin.stirred(y);
            });
        }
    }

    private static void imageWithoutMotion() {
        NoseDrum x = Check.drumOf(Twin.WHOLE, 10);
        x.keep(0);
        Check.motionOf(x, "up 9;", 1);
        x.keep(1);
        due("back(0)", x.back(0), 0);
        due("no motion", x.count(9), 0);
        due("rowAt(1)", x.rowAt(1), -6);
        due("back(1)", x.back(1), 0);
        due("a motion", x.count(9), 1);
        due("rowAt(1)", x.rowAt(1), 9);
        due("rowAt(0)", x.rowAt(0), 0);
    }
}
