/** Promises 16 to 21: the steady turn, springs, work, clicks, when all stands as at first. */
public final class SteadyTest {
    private static final String DRUM = "drum steps 12 jam 5 slack 2; track;"
        + "nose on 0 at 2 wide 2 high 6 steep 2;"
        + "knife on 0 spring 1 lag 2; roller 1 on 0 spring 3 lag 0; flat 1 on 0 spring 1 lag 20;"
        + "lever on 0 3 over 2; pawl on 0 at 5 teeth 2; pawl on 3 at 9 teeth 3; pawl on 1 at 7 teeth 30; gear 3 to 2;";

    public static void main(String[] args) {
        steadies();
        neverDown();
        leaving();
        springs();
        works();
        sames();
        Check.finish();
    }

    private static void steadyDue(NoseDrum x, int follower, int... want) {
        for (int s = 0; s < want.length; s++) {
            Check.due("steady(" + follower + ", " + s + ")", x.steady(follower, s), want[s]);
        }
    }

    private static void steadies() {
        NoseDrum x = Check.drumOf(DRUM, 11);
        steadyDue(x, 0, 2, 4, 6, 6, 5, 4, 3, 2, 1, 0, 0, 0);
        steadyDue(x, 1, 3, 5, 6, 6, 5, 3, 1, 0, 0, 0, 0, 1);
        steadyDue(x, 2, 4, 6, 6, 6, 6, 5, 4, 3, 2, 1, 0, 2);
        steadyDue(x, 3, 3, 6, 9, 9, 7, 6, 4, 3, 1, 0, 0, 0);
        Check.due("steady(4, 0)", x.steady(4, 0), -2);
        Check.due("steady(-1, 0)", x.steady(-1, 0), -2);
        Check.due("steady(0, 12)", x.steady(0, 12), -2);
        Check.due("steady(0, -1)", x.steady(0, -1), -2);
        x.turn(5);
        Check.due("whatever POS is now", x.steady(0, 0), 2);
        x.wear(0, 4);
        steadyDue(x, 0, 0, 0, 2, 2, 1, 0, 0, 0, 0, 0, 0, 0);
    }

    /** Springs so weak that what is behind the nose of one turn comes ahead of that of the next; jam plays no part. */
    private static void neverDown() {
        NoseDrum x = Check.drumOf("drum steps 6 jam 1 slack 0; track; nose on 0 at 4 wide 1 high 20 steep 60; knife on 0 spring 1 lag 0;", 4);
        steadyDue(x, 0, 18, 17, 16, 15, 20, 19);
        Check.due("leaves", x.leaves(0, 0), 5);
        Check.due("leaves first", x.leaves(0, 1), 0);
        Check.due("work", x.work(), 5);
        Check.due("jammed", x.turn(6), 3);
    }

    private static void leaving() {
        NoseDrum x = Check.drumOf(DRUM, 11);
        Check.due("leaves(0, 0)", x.leaves(0, 0), 5);
        Check.due("leaves(0, 1)", x.leaves(0, 1), 4);
        Check.due("leaves(1, 0)", x.leaves(1, 0), 0);
        Check.due("leaves(1, 1)", x.leaves(1, 1), -1);
        Check.due("leaves(2, 0)", x.leaves(2, 0), 5);
        Check.due("leaves(2, 1)", x.leaves(2, 1), 5);
        Check.due("leaves(3, 0)", x.leaves(3, 0), 5);
        Check.due("leaves(3, 1)", x.leaves(3, 1), 4);
        Check.due("leaves(0, 2)", x.leaves(0, 2), -2);
        Check.due("leaves(0, -1)", x.leaves(0, -1), -2);
        Check.due("leaves(4, 0)", x.leaves(4, 0), -2);
        Check.due("leaves(-1, 0)", x.leaves(-1, 0), -2);
    }

    private static void springs() {
        NoseDrum x = Check.drumOf(DRUM, 11);
        Check.due("spring(0)", x.spring(0), 2);
        Check.due("spring(1)", x.spring(1), 2);
        Check.due("spring(2)", x.spring(2), 2);
        Check.due("spring(3)", x.spring(3), -1);
        Check.due("spring(4)", x.spring(4), -2);
        Check.due("spring(-1)", x.spring(-1), -2);
        x.breaks(0, true);
        Check.due("spring on a track without noses", x.spring(0), 1);
        NoseDrum y = Check.drumOf("drum steps 4 jam 9 slack 0; track; nose on 0 at 3 wide 1 high 60 steep 60; knife on 0 spring 1 lag 0;", 4);
        Check.due("the greatest spring, over the end", y.spring(0), 60);
    }

    private static void works() {
        NoseDrum x = Check.drumOf(DRUM, 11);
        Check.due("work()", x.work(), 18);
        x.wear(0, 6);
        Check.due("work() worn off", x.work(), 0);
        x.wear(0, 0);
        Check.due("clicks(0)", x.clicks(0), 1);
        Check.due("clicks(1)", x.clicks(1), 1);
        Check.due("clicks(2), never so high", x.clicks(2), 0);
        Check.due("clicks(3)", x.clicks(3), -2);
        Check.due("clicks(-1)", x.clicks(-1), -2);
        NoseDrum y = Check.drumOf("drum steps 12 jam 9 slack 0; track; nose on 0 at 0 wide 1 high 5 steep 9; nose on 0 at 4 wide 2 high 6 steep 9;"
            + "nose on 0 at 8 wide 1 high 4 steep 9; knife on 0 spring 9 lag 0;"
            + "pawl on 0 at 4 teeth 30; pawl on 0 at 5 teeth 30; pawl on 0 at 6 teeth 30; pawl on 0 at 99 teeth 2;", 10);
        Check.due("three noses", y.clicks(0), 3);
        Check.due("two of them", y.clicks(1), 2);
        Check.due("one of them", y.clicks(2), 1);
        Check.due("none of them", y.clicks(3), 0);
        Check.due("work of three", y.work(), 15);
    }

    private static void sames() {
        // Pawls of 2 and 3 teeth go on once a turn, the third never; the gear comes round by two turns.
        Check.due("same()", Check.drumOf(DRUM, 11).same(), 6);
        Check.due("same() without pawls and gear", Check.drumOf("drum steps 7 jam 5 slack 0;", 1).same(), 1);
        Check.due("same() by a gear", Check.drumOf("drum steps 7 jam 5 slack 0; gear 5 to 3;", 2).same(), 3);
        Check.due("same(), cut", Check.drumOf("drum steps 5 jam 5 slack 0; gear 1 to 6;", 2).same(), 1);
        String many = "drum steps 6 jam 60 slack 0; track; nose on 0 at 3 wide 1 high 9 steep 9; knife on 0 spring 60 lag 0;"
            + "pawl on 0 at 1 teeth 29; pawl on 0 at 1 teeth 23;";
        Check.due("same() of 29 and 23", Check.drumOf(many, 6).same(), 667);
        Check.due("same() of 29, 23, 7", Check.drumOf(many + "pawl on 0 at 1 teeth 7;", 7).same(), 4669);
        Check.due("same() of 29, 23, 19", Check.drumOf(many + "pawl on 0 at 1 teeth 19;", 7).same(), -1);
        String near = "drum steps 60 jam 60 slack 0; track; nose on 0 at 3 wide 1 high 9 steep 9; knife on 0 spring 60 lag 0;";
        Check.due("same() of 49, 12, 17", Check.drumOf(near + "pawl on 0 at 1 teeth 12; pawl on 0 at 9 teeth 17; gear 1 to 49;", 7).same(), 9996);
        Check.due("same() of 15, 23, 29", Check.drumOf(many + "pawl on 0 at 1 teeth 15;", 7).same(), -1);
        NoseDrum x = Check.drumOf(many + "pawl on 0 at 1 teeth 19;", 7);
        x.breaks(0, true);
        Check.due("same() of a broken nose", x.same(), 1);
        x.turn(3);
        Check.due("same() wherever the drum is", x.same(), 1);
    }
}
