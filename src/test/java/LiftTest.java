/** Promises 7 to 11: profiles and lifts. */
public final class LiftTest {
    // Track 0 is [2,4,6,6,4,2,0,0,0,0,0,0], track 1 has no nose, track 2 has one over the turn's end.
    private static final String DRUM = "drum steps 12 jam 5 slack 2; track; track; track;"
        + "nose on 0 at 2 wide 2 high 6 steep 2; nose on 2 at 11 wide 3 high 9 steep 4; nose on 2 at 6 wide 1 high 7 steep 6;"
        + "knife on 0 spring 1 lag 2; roller 1 on 0 spring 3 lag 0; flat 1 on 0 spring 2 lag 1;"
        + "lever on 0 3 over 2; lever on 3 1 over 2; knife on 1 spring 1 lag 0; knife on 2 spring 1 lag 0;";

    public static void main(String[] args) {
        profiles();
        lifts();
        steeps();
        greatLevers();
        littleDrum();
        Check.finish();
    }

    private static void rowDue(String what, NoseDrum x, int track, int... want) {
        for (int s = 0; s < want.length; s++) {
            Check.due(what + " profile(" + track + ", " + s + ")", x.profile(track, s), want[s]);
        }
    }

    private static void liftsDue(NoseDrum x, int follower, int... want) {
        for (int s = 0; s < want.length; s++) {
            Check.due("lift(" + follower + ", " + s + ")", x.lift(follower, s), want[s]);
        }
    }

    private static void profiles() {
        NoseDrum x = Check.drumOf(DRUM, 14);
        rowDue("one nose:", x, 0, 2, 4, 6, 6, 4, 2, 0, 0, 0, 0, 0, 0);
        rowDue("no nose:", x, 1, 0, 0, 0, 0, 0, 0, 0, 0, 0, 0, 0, 0);
        rowDue("two noses:", x, 2, 9, 9, 5, 1, 0, 1, 7, 1, 0, 1, 5, 9);
        Check.due("profile(3, 0)", x.profile(3, 0), -2);
        Check.due("profile(-1, 0)", x.profile(-1, 0), -2);
        Check.due("profile(0, 12)", x.profile(0, 12), -2);
        Check.due("profile(0, -1)", x.profile(0, -1), -2);
        x.wear(0, 3);
        rowDue("worn:", x, 0, 0, 1, 3, 3, 1, 0, 0, 0, 0, 0, 0, 0);
        x.wear(0, 60);
        rowDue("worn off:", x, 0, 0, 0, 0, 0, 0, 0, 0, 0, 0, 0, 0, 0);
        x.breaks(1, true);
        rowDue("broken:", x, 2, 0, 0, 0, 0, 0, 1, 7, 1, 0, 0, 0, 0);
        NoseDrum y = Check.drumOf("drum steps 4 jam 9 slack 0; track; nose on 0 at 3 wide 4 high 5 steep 1;", 3);
        rowDue("all round:", y, 0, 5, 5, 5, 5);
    }

    private static void lifts() {
        NoseDrum x = Check.drumOf(DRUM, 14);
        liftsDue(x, 0, 2, 4, 6, 6, 4, 2, 0, 0, 0, 0, 0, 0);
        liftsDue(x, 1, 3, 5, 6, 6, 5, 3, 1, 0, 0, 0, 0, 1);
        liftsDue(x, 2, 4, 6, 6, 6, 6, 4, 2, 0, 0, 0, 0, 2);
        liftsDue(x, 3, 3, 6, 9, 9, 6, 3, 0, 0, 0, 0, 0, 0);
        liftsDue(x, 4, 1, 3, 4, 4, 3, 1, 0, 0, 0, 0, 0, 0);
        liftsDue(x, 5, 0, 0, 0, 0, 0, 0, 0, 0, 0, 0, 0, 0);
        Check.due("lift(7, 0)", x.lift(7, 0), -2);
        Check.due("lift(-1, 0)", x.lift(-1, 0), -2);
        Check.due("lift(0, 12)", x.lift(0, 12), -2);
        Check.due("lift(0, -1)", x.lift(0, -1), -2);
    }

    private static void steeps() {
        NoseDrum x = Check.drumOf(DRUM, 14);
        Check.due("steep(0)", x.steep(0), 2);
        Check.due("steep(1)", x.steep(1), 0);
        Check.due("steep(2)", x.steep(2), 6);
        Check.due("steep(3)", x.steep(3), -2);
        Check.due("steep(-1)", x.steep(-1), -2);
        Check.due("jams(0)", x.jams(0), -1);
        Check.due("jams(5)", x.jams(5), -1);
        Check.due("jams(6)", x.jams(6), 6);
        Check.due("jams(7)", x.jams(7), -2);
        Check.due("jams(-1)", x.jams(-1), -2);
        Check.due("covers(0, 0)", x.covers(0, 0), 6);
        Check.due("covers(0, 4)", x.covers(0, 4), 2);
        Check.due("covers(0, 6)", x.covers(0, 6), 0);
        Check.due("covers(0, 60)", x.covers(0, 60), 0);
        Check.due("covers(2, 0)", x.covers(2, 0), 10);
        Check.due("covers(0, 61)", x.covers(0, 61), -2);
        Check.due("covers(0, -1)", x.covers(0, -1), -2);
        Check.due("covers(3, 0)", x.covers(3, 0), -2);

        // Over the turn's end, as high as jam and one more; a lever's lift jams, too, in this call.
        NoseDrum y = Check.drumOf("drum steps 5 jam 7 slack 0; track; nose on 0 at 0 wide 1 high 7 steep 60;"
            + "knife on 0 spring 1 lag 0; lever on 0 8 over 7;", 5);
        Check.due("steep over the end", y.steep(0), 7);
        Check.due("jams at just jam", y.jams(0), -1);
        Check.due("jams above it", y.jams(1), 0);
    }

    private static void greatLevers() {
        NoseDrum x = Check.drumOf("drum steps 4 jam 60 slack 0; track; nose on 0 at 1 wide 1 high 60 steep 59;"
            + "knife on 0 spring 60 lag 0; lever on 0 9 over 1; lever on 1 9 over 1; lever on 2 9 over 1; lever on 3 1 over 9;"
            + "lever on 3 9 over 2;", 9);
        liftsDue(x, 1, 9, 540, 9, 0);
        liftsDue(x, 2, 81, 4860, 81, 0);
        liftsDue(x, 3, 729, 9999, 729, 0);
        liftsDue(x, 4, 81, 1111, 81, 0);
        liftsDue(x, 5, 3280, 9999, 3280, 0);
        x.turn(1);
        Check.due("POS of a great lever", x.follower(3, 0), 9999);
        Check.due("POS of one over it", x.follower(4, 0), 1111);
    }

    /** The rollers and flats are wider than the turn is long. */
    private static void littleDrum() {
        NoseDrum x = Check.drumOf("drum steps 4 jam 60 slack 0; track; nose on 0 at 1 wide 1 high 9 steep 60;"
            + "roller 9 on 0 spring 60 lag 0; flat 9 on 0 spring 60 lag 0; roller 0 on 0 spring 1 lag 0; flat 0 on 0 spring 1 lag 0;", 7);
        liftsDue(x, 0, 8, 9, 8, 5);
        liftsDue(x, 1, 9, 9, 9, 9);
        liftsDue(x, 2, 0, 9, 0, 0);
        liftsDue(x, 3, 0, 9, 0, 0);
    }
}
