/** Promises 27 to 34: the motion's row, what brings it, what is near it. */
public final class MotionTest {
    private static final String DRUM = "drum steps 12 jam 5 slack 2; track;"
        + "nose on 0 at 2 wide 2 high 6 steep 2;"
        + "knife on 0 spring 1 lag 2; roller 1 on 0 spring 3 lag 0; lever on 0 3 over 2;";

    public static void main(String[] args) {
        rows();
        rowsByLifts();
        cuts();
        bringing();
        widths();
        hardSteps();
        differing();
        nearestOnes();
        wrong();
        Check.finish();
    }

    private static void rowDue(NoseDrum x, String motion, int steps, int... want) {
        Check.motionOf(x, motion, steps);
        for (int s = 0; s < want.length; s++) {
            Check.due(motion + " rowAt(" + s + ")", x.rowAt(s), want[s]);
        }
    }

    private static void cutDue(NoseDrum x, int sort, int n, int... want) {
        for (int s = 0; s < want.length; s++) {
            Check.due("cut(" + sort + ", " + n + ", " + s + ")", x.cut(sort, n, s), want[s]);
        }
    }

    private static void rows() {
        NoseDrum x = Check.drumOf(DRUM, 6);
        Check.due("rowAt without a motion", x.rowAt(0), -6);
        rowDue(x, "", 0, 0, 0, 0, 0, 0, 0, 0, 0, 0, 0, 0, 0);
        rowDue(x, "up 3; hold 2; down 1;", 4, 0, 3, 3, 3, 2, 2, 2, 2, 2, 2, 2, 2);
        rowDue(x, "up 3; down 9; up 0; down 0; up 2;", 5, 0, 3, 0, 0, 0, 2, 2, 2, 2, 2, 2, 2);
        rowDue(x, "times 3 { up 2; down 1; }", 6, 0, 2, 1, 3, 2, 4, 3, 3, 3, 3, 3, 3);
        rowDue(x, "times 2 { up 1; times 2 { up 10; hold 1; } down 20; }", 11, 0, 1, 11, 11, 21, 21, 1, 2, 12, 12, 22, 22);
        rowDue(x, "times 60 { up 60; }", 11, 0, 60, 120, 180, 240, 300, 360, 420, 480, 540, 600, 660);
        rowDue(x, "hold 60; up 5;", 11, 0, 0, 0, 0, 0, 0, 0, 0, 0, 0, 0, 0);
        rowDue(x, "hold 10; up 5; up 5;", 11, 0, 0, 0, 0, 0, 0, 0, 0, 0, 0, 0, 5);
        rowDue(x, "times 2 { } up 1; times 60 { times 60 { } }", 1, 0, 1, 1);
    }

    /** The knife's lift is [2,4,6,6,4,2,0,0,0,0,0,0], the lever's [3,6,9,9,6,3,0,...]. */
    private static void rowsByLifts() {
        NoseDrum x = Check.drumOf(DRUM, 6);
        rowDue(x, "times 60 { if 0 above 3 { up 1; } hold 1; }", 11, 0, 0, 1, 1, 2, 2, 2, 2, 2, 2, 2, 2);
        rowDue(x, "if 0 above 2 { up 9; } if 0 above 1 { up 5; }", 1, 0, 5, 5);
        rowDue(x, "hold 1; times 60 { if 2 above 6 { up 1; } if 0 above 6 { up 50; } }", 1, 0, 0, 0);
        rowDue(x, "hold 1; times 60 { if 2 above 5 { up 1; } if 0 above 6 { up 50; } }", 5, 0, 0, 1, 2, 3, 4, 4);
        rowDue(x, "times 2 { times 2 { if 0 above 5 { up 1; } } hold 2; }", 6, 0, 0, 0, 1, 2, 2, 2);
        x.wear(0, 3);
        Check.due("the row stays as it was made", x.rowAt(4), 2);
        rowDue(x, "times 60 { if 0 above 2 { up 1; } hold 1; }", 11, 0, 0, 0, 1, 1, 1, 1, 1, 1, 1, 1, 1);
        x.breaks(0, true);
        rowDue(x, "times 60 { if 0 above 0 { up 1; } }", 0, 0, 0, 0);
    }

    private static void cuts() {
        NoseDrum x = Check.drumOf(DRUM, 6);
        Check.due("cut without a motion", x.cut(0, 0, 0), -6);
        Check.motionOf(x, "up 1; up 5; hold 2; down 2; down 4;", 6);
        // 0 1 6 6 6 4 0 0 0 0 0 0
        cutDue(x, 0, 0, 0, 1, 6, 6, 6, 4, 0, 0, 0, 0, 0, 0);
        cutDue(x, 1, 0, 0, 1, 6, 6, 6, 4, 0, 0, 0, 0, 0, 0);
        cutDue(x, 1, 1, 0, 1, 2, 6, 5, 1, 0, 0, 0, 0, 0, 0);
        cutDue(x, 1, 2, 0, 1, 2, 5, 4, 1, 0, 0, 0, 0, 0, 0);
        cutDue(x, 2, 0, 0, 1, 6, 6, 6, 4, 0, 0, 0, 0, 0, 0);
        cutDue(x, 2, 1, 0, 0, 1, 6, 4, 0, 0, 0, 0, 0, 0, 0);
        cutDue(x, 2, 9, 0, 0, 0, 0, 0, 0, 0, 0, 0, 0, 0, 0);
        Check.motionOf(x, "hold 10; up 9;", 11);
        cutDue(x, 2, 1, 0, 0, 0, 0, 0, 0, 0, 0, 0, 0, 0, 0);
        cutDue(x, 1, 1, 0, 0, 0, 0, 0, 0, 0, 0, 0, 0, 0, 1);
    }

    private static void bringing() {
        NoseDrum x = Check.drumOf(DRUM, 6);
        Check.due("brings without a motion", x.brings(0, 0), -6);
        Check.motionOf(x, "up 1; up 5; hold 2; down 2; down 4;", 6);
        Check.due("a knife brings all", x.brings(0, 0), -1);
        Check.due("a roller of 0 brings all", x.brings(1, 0), -1);
        // The lift over [0,1,2,6,5,1,0..] is [0,1,5,6,5,4,0..].
        Check.due("a roller of 1", x.brings(1, 1), 2);
        // The lift over [0,0,1,6,4,0..] is [0,1,6,6,6,4,0..].
        Check.due("a flat of 1 brings all", x.brings(2, 1), -1);
        // The lift over [0,0,0,1,0,0..] is [0,1,1,1,1,1,0..].
        Check.due("a flat of 2", x.brings(2, 2), 2);
        Check.motionOf(x, "up 2; down 2; down 2; up 1; up 3; hold 1; down 3; down 1;", 8);
        // 0 2 0 0 1 4 4 1 0 0 0 0: a roller of 1 cuts [0,1,0,0,1,2,2,1,0..], which lifts to [0,1,..].
        Check.due("a roller of 1", x.brings(1, 1), 1);
        Check.motionOf(x, "hold 10; up 9;", 11);
        Check.due("over the end", x.brings(2, 1), 11);
    }

    private static void widths() {
        NoseDrum x = Check.drumOf(DRUM, 6);
        Check.due("widest without a motion", x.widest(1), -6);
        Check.motionOf(x, "up 1; up 5; hold 2; down 2; down 4;", 6);
        Check.due("widest roller", x.widest(1), 0);
        Check.due("widest flat", x.widest(2), 1);
        x.motion();
        Check.due("widest roller of nothing", x.widest(1), 9);
        Check.due("widest flat of nothing", x.widest(2), 9);
        Check.motionOf(x, "up 5; hold 4; down 5;", 6);
        Check.due("widest flat of five steps", x.widest(2), 2);
        Check.motionOf(x, "hold 3; up 3; up 1; down 1; down 3;", 7);
        // 0 0 0 0 3 4 3 0 ..: over a nose of 4 at 5 a roller lifts 3 beside it and 0 two steps off, however great it is.
        Check.due("widest roller of a little round", x.widest(1), 9);
        Check.motionOf(x, "hold 2; up 6; up 3; up 1; down 1; down 3; down 6;", 8);
        // 0 0 0 6 9 10 9 6 0 ..: a roller of 3 would lift 1 three steps off.
        Check.due("widest roller of a round", x.widest(1), 2);
    }

    private static void hardSteps() {
        NoseDrum x = Check.drumOf(DRUM, 6);
        Check.due("hard without a motion", x.hard(0), -6);
        Check.motionOf(x, "up 5; up 6; down 3; up 9; down 10;", 5);
        // 0 5 11 8 17 7 7 ..
        Check.due("hard(0)", x.hard(0), 2);
        Check.due("hard(1)", x.hard(1), 0);
        Check.due("hard(2)", x.hard(2), 0);
        Check.due("hard(6)", x.hard(6), 0);
        Check.due("hard(7)", x.hard(7), 5);
        Check.due("hard(9)", x.hard(9), 5);
        Check.due("hard(10)", x.hard(10), -1);
        Check.due("hard(60)", x.hard(60), -1);
        Check.motionOf(x, "up 5; down 3;", 2);
        Check.due("hard(0): as much as jam", x.hard(0), -1);
        Check.due("hard(1)", x.hard(1), 0);
        Check.due("hard(2)", x.hard(2), 2);
        Check.due("hard(3)", x.hard(3), -1);
    }

    private static void differing() {
        NoseDrum x = Check.drumOf(DRUM, 6);
        Check.due("differs without a motion", x.differs(0), -6);
        Check.due("phase without a motion", x.phase(0), -6);
        // The knife goes by [2,4,6,6,5,4,3,2,1,0,0,0].
        Check.motionOf(x, "up 2; up 2; up 2; hold 1; times 6 { down 1; } hold 1;", 11);
        Check.due("differs(0)", x.differs(0), 0);
        Check.due("phase(0)", x.phase(0), 11);
        Check.due("phase(1)", x.phase(1), -1);
        Check.due("phase(2)", x.phase(2), -1);
        x.motion();
        Check.due("differs(0) of nothing", x.differs(0), 0);
        Check.due("phase(0) of nothing", x.phase(0), -1);
        x.breaks(0, true);
        Check.due("differs(0), broken", x.differs(0), -1);
        Check.due("phase(0), broken", x.phase(0), 0);
        x.breaks(0, false);
        NoseDrum y = Check.drumOf("drum steps 6 jam 9 slack 0; track; nose on 0 at 1 wide 1 high 4 steep 4; nose on 0 at 4 wide 1 high 4 steep 4;"
            + "knife on 0 spring 2 lag 0;", 5);
        Check.motionOf(y, "up 4; down 2; down 2; up 4; down 2;", 5);
        Check.due("differs of the same", y.differs(0), -1);
        Check.due("the least phase", y.phase(0), 0);
        Check.motionOf(y, "up 4; down 2; down 2; up 4; down 3;", 5);
        Check.due("differs at the last", y.differs(0), 5);
        Check.motionOf(y, "hold 1; up 4; down 2; down 2; up 4;", 5);
        Check.due("not of one that begins higher", y.phase(0), -1);
    }

    private static void nearestOnes() {
        NoseDrum x = Check.drumOf(DRUM, 6);
        Check.due("nearest without a motion", x.nearest(), -6);
        Check.motionOf(x, "up 2; up 2; up 2; hold 1; times 6 { down 1; } hold 1;", 11);
        Check.due("nearest is the knife", x.nearest(), 0);
        // The roller goes by [3,5,6,6,5,3,1,0,0,0,0,1], the lever by [3,6,9,9,7,6,4,3,1,0,0,0].
        Check.motionOf(x, "hold 2; up 1; up 2; up 2; up 1; hold 1; down 1; down 2; down 2; down 1;", 11);
        Check.due("nearest is the roller", x.nearest(), 1);
        Check.motionOf(x, "up 3; up 3; up 4; hold 1; down 2; down 2; down 1; down 2; down 1; down 1;", 10);
        Check.due("nearest is the lever", x.nearest(), 2);
        x.breaks(0, true);
        Check.due("nearest of some that are alike", x.nearest(), 0);
        // Follower f is as the motion but for f, if it is shifted by one step.
        NoseDrum z = Check.drumOf("drum steps 6 jam 9 slack 0; track; track; nose on 0 at 2 wide 1 high 4 steep 60; nose on 1 at 2 wide 1 high 3 steep 60;"
            + "knife on 0 spring 60 lag 0; knife on 1 spring 60 lag 0;", 7);
        Check.motionOf(z, "up 4; down 4;", 2);
        Check.due("nearest by one step", z.nearest(), 0);
        Check.due("phase of one step", z.phase(0), 1);
        Check.motionOf(z, "hold 2; up 3; down 3;", 4);
        Check.due("nearest by the last step of all", z.nearest(), 1);
        Check.due("phase of the last step of all", z.phase(1), 5);
        NoseDrum y = Check.drumOf("drum steps 6 jam 9 slack 0;", 1);
        Check.due("nearest without a motion and followers", y.nearest(), -6);
        y.motion();
        Check.due("nearest without followers", y.nearest(), -1);
    }

    private static void wrong() {
        NoseDrum x = Check.drumOf(DRUM, 6);
        for (int i = 0; i < 2; i++) {
            Check.due("rowAt(12)", x.rowAt(12), -2);
            Check.due("rowAt(-1)", x.rowAt(-1), -2);
            Check.due("cut(0, 1, 0)", x.cut(0, 1, 0), -2);
            Check.due("cut(3, 0, 0)", x.cut(3, 0, 0), -2);
            Check.due("cut(-1, 0, 0)", x.cut(-1, 0, 0), -2);
            Check.due("cut(1, 10, 0)", x.cut(1, 10, 0), -2);
            Check.due("cut(2, -1, 0)", x.cut(2, -1, 0), -2);
            Check.due("cut(0, 0, 12)", x.cut(0, 0, 12), -2);
            Check.due("cut(0, 0, -1)", x.cut(0, 0, -1), -2);
            Check.due("brings(0, 1)", x.brings(0, 1), -2);
            Check.due("brings(3, 0)", x.brings(3, 0), -2);
            Check.due("brings(1, 10)", x.brings(1, 10), -2);
            Check.due("brings(2, -1)", x.brings(2, -1), -2);
            Check.due("widest(0)", x.widest(0), -2);
            Check.due("widest(3)", x.widest(3), -2);
            Check.due("hard(61)", x.hard(61), -2);
            Check.due("hard(-1)", x.hard(-1), -2);
            Check.due("differs(3)", x.differs(3), -2);
            Check.due("differs(-1)", x.differs(-1), -2);
            Check.due("phase(3)", x.phase(3), -2);
            Check.due("phase(-1)", x.phase(-1), -2);
            x.motion();
        }
    }
}
