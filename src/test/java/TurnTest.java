/** Promises 12 to 15: turning, followers, what stands, pawls. */
public final class TurnTest {
    private static final String DRUM = "drum steps 12 jam 5 slack 2; track;"
        + "nose on 0 at 2 wide 2 high 6 steep 2;"
        + "knife on 0 spring 1 lag 2; roller 1 on 0 spring 3 lag 0; flat 1 on 0 spring 2 lag 20;"
        + "lever on 0 3 over 2; pawl on 0 at 5 teeth 2; pawl on 3 at 9 teeth 3; gear 3 to 2;";

    public static void main(String[] args) {
        forth();
        slack();
        jamming();
        jamOfSlack();
        moved();
        wornWhileTurning();
        secondDrum();
        wrong();
        Check.finish();
    }

    private static void posDue(String when, NoseDrum x, int... want) {
        for (int f = 0; f < want.length; f++) {
            Check.due(when + " POS of " + f, x.follower(f, 0), want[f]);
        }
    }

    private static void standsDue(String when, NoseDrum x, int... want) {
        for (int what = 0; what < want.length; what++) {
            Check.due(when + " stands(" + what + ")", x.stands(what), want[what]);
        }
    }

    private static void forth() {
        NoseDrum x = Check.drumOf(DRUM, 10);
        posDue("at first", x, 2, 3, 4, 3);
        standsDue("at first", x, 0, 0, 0, 0, 0, 0);
        Check.due("turn(0)", x.turn(0), 0);
        Check.due("turn(1)", x.turn(1), 1);
        posDue("at 1", x, 4, 5, 6, 6);
        standsDue("at 1", x, 1, 1, 6, 0, 1, 0);
        Check.due("pawl(0) at 1", x.pawl(0), 0);
        Check.due("turn(1)", x.turn(1), 1);
        posDue("at 2", x, 6, 6, 6, 9);
        standsDue("at 2", x, 2, 2, 9, 0, 3, 0);
        Check.due("pawl(0) at 2", x.pawl(0), 1);
        Check.due("pawl(1) at 2", x.pawl(1), 1);
        Check.due("turn(3)", x.turn(3), 3);
        posDue("at 5", x, 4, 3, 4, 6);
        Check.due("MOVED of 0", x.follower(0, 1), 6);
        Check.due("MOVED of 1", x.follower(1, 1), 3);
        Check.due("MOVED of 2", x.follower(2, 1), 4);
        Check.due("MOVED of 3", x.follower(3, 1), 6);
        Check.due("LIFT of 0", x.follower(0, 2), 2);
        Check.due("LIFT of 3", x.follower(3, 2), 3);
        Check.due("turn(7)", x.turn(7), 7);
        posDue("at 12", x, 2, 3, 4, 3);
        standsDue("at 12", x, 12, 12, 9 + 2 + 3 + 4, 0, 6, 0);
        Check.due("turn(2)", x.turn(2), 2);
        Check.due("pawl(0) is round", x.pawl(0), 0);
        Check.due("pawl(1)", x.pawl(1), 2);
        Check.due("turn(600)", x.turn(600), 600);
        Check.due("pawl(0) after 50 turns", x.pawl(0), 0);
        Check.due("pawl(1) after 50 turns", x.pawl(1), 52 % 3);
        standsDue("at 614", x, 614, 614, 51 * 18 + 9);
        for (int f = 0; f < 4; f++) {
            Check.due("JAMMED by", x.follower(f, 4), 0);
            Check.due("sort", x.follower(f, 3), f);
        }
    }

    private static void slack() {
        NoseDrum x = Check.drumOf(DRUM, 10);
        Check.due("turn(-1) at first turns", x.turn(-1), 1);
        standsDue("back at first", x, -1, 1, 0, 0, 11, 0);
        posDue("at -1", x, 1, 1, 2, 1);
        Check.due("turn(1) is slack", x.turn(1), 1);
        standsDue("slack", x, -1, 2, 0, 1, 11, 0);
        Check.due("turn(-1) is slack again", x.turn(-1), 1);
        standsDue("slack anew", x, -1, 3, 0, 1, 11, 0);
        Check.due("turn(-2)", x.turn(-2), 2);
        standsDue("behind slack", x, -2, 5, 0, 0, 9, 0);
        Check.due("turn(4)", x.turn(4), 4);
        standsDue("forth again", x, 0, 9, 1 + 1 + 2 + 1 + 2 + 2, 0, 0, 0);
        Check.due("turn(0) changes nothing", x.turn(0), 0);
        standsDue("forth again", x, 0, 9, 9, 0, 0, 0);
        Check.due("turn(-600)", x.turn(-600), 600);
        standsDue("far back", x, -598, 609);
        Check.due("second drum far back", x.stands(4), Math.floorMod(-897, 12));
    }

    private static void jamming() {
        NoseDrum x = Check.drumOf("drum steps 8 jam 3 slack 0; track; track;"
            + "nose on 0 at 3 wide 1 high 9 steep 3; nose on 1 at 3 wide 1 high 4 steep 4;"
            + "knife on 0 spring 9 lag 0; knife on 1 spring 9 lag 0; flat 0 on 1 spring 9 lag 0; lever on 0 9 over 1;", 9);
        Check.due("turn(5)", x.turn(5), 2);
        standsDue("jammed", x, 2, 2, 6, 0, 2, 1);
        Check.due("JAMMED by 0", x.follower(0, 4), 0);
        Check.due("JAMMED by 1, the first", x.follower(1, 4), 1);
        Check.due("JAMMED by 2", x.follower(2, 4), 0);
        Check.due("a lever jams nothing", x.follower(3, 4), 0);
        Check.due("turn(1)", x.turn(1), 0);
        Check.due("jammed twice", x.stands(5), 2);
        Check.due("turn(-4)", x.turn(-4), 4);
        standsDue("back", x, -2, 6, 6, 0, 6, 2);
        Check.due("it was JAMMED last by 1", x.follower(1, 4), 1);
        Check.due("turn(-3)", x.turn(-3), 2);
        Check.due("angle", x.stands(0), -4);
        Check.due("JAMMED by 1", x.follower(1, 4), 1);
        x.wear(1, 1);
        Check.due("as high as jam", x.turn(-1), 1);
        Check.due("angle", x.stands(0), -5);
        x.turn(1);
        x.wear(1, 0);
        x.wear(0, 2);
        Check.due("the other is worn", x.turn(-1), 0);
        x.wear(1, 4);
        x.wear(0, 0);
        x.turn(1);
        x.wear(0, 0);
        Check.due("a drum anew", x.drum(), 0);
        Check.due("jams then", x.stands(5), 0);
    }

    /** A step that is jammed is not the latest that was taken. */
    private static void jamOfSlack() {
        NoseDrum x = Check.drumOf("drum steps 6 jam 2 slack 1; track; nose on 0 at 1 wide 1 high 5 steep 9; knife on 0 spring 9 lag 0;", 4);
        Check.due("turn(1)", x.turn(1), 0);
        standsDue("jammed at once", x, 0, 0, 0, 0, 0, 1);
        Check.due("no slack behind it", x.turn(-1), 1);
        standsDue("turned", x, -1, 1, 0, 0, 5, 1);
        Check.due("slack, a step, the jam", x.turn(3), 2);
        standsDue("jammed", x, 0, 3, 0, 0, 0, 2);
        Check.due("jammed still", x.turn(1), 0);
        Check.due("slack back", x.turn(-1), 1);
        standsDue("slack", x, 0, 4, 0, 0, 0, 3);
    }

    private static void moved() {
        NoseDrum x = Check.drumOf("drum steps 30 jam 60 slack 1; track; nose on 0 at 25 wide 1 high 25 steep 1;"
            + "knife on 0 spring 60 lag 20; knife on 0 spring 60 lag 1; lever on 0 1 over 1;", 6);
        Check.due("at first", x.follower(0, 1), 20);
        for (int i = 1; i <= 25; i++) {
            x.turn(1);
            int lift = x.lift(0, i);
            Check.due("POS " + i, x.follower(0, 0), lift);
            Check.due("MOVED 20 late " + i, x.follower(0, 1), i < 20 ? 20 : x.lift(0, i - 20));
            Check.due("MOVED 1 late " + i, x.follower(1, 1), x.lift(1, i - 1));
            Check.due("MOVED of a lever " + i, x.follower(2, 1), lift);
        }
        x.turn(-1);
        Check.due("slack moves nothing", x.follower(1, 1), x.lift(1, 24));
        x.turn(-1);
        Check.due("back", x.follower(1, 1), x.lift(1, 25));
    }

    private static void wornWhileTurning() {
        NoseDrum x = Check.drumOf("drum steps 12 jam 9 slack 0; track; nose on 0 at 0 wide 12 high 8 steep 2; knife on 0 spring 3 lag 0;"
            + "pawl on 0 at 8 teeth 30;", 5);
        x.wear(0, 7);
        Check.due("LIFT at once", x.follower(0, 2), 1);
        Check.due("POS stays", x.follower(0, 0), 8);
        x.turn(1);
        Check.due("POS by the spring", x.follower(0, 0), 5);
        x.turn(1);
        Check.due("POS by the spring", x.follower(0, 0), 2);
        x.turn(1);
        Check.due("POS on the nose", x.follower(0, 0), 1);
        x.breaks(0, true);
        x.turn(1);
        Check.due("POS without a nose", x.follower(0, 0), 0);
        x.breaks(0, false);
        x.wear(0, 0);
        Check.due("LIFT whole", x.follower(0, 2), 8);
        Check.due("turn", x.turn(1), 1);
        Check.due("POS whole", x.follower(0, 0), 8);
        Check.due("WORK", x.stands(2), 8);
        Check.due("a pawl goes on at its height", x.pawl(0), 1);
        x.turn(1);
        Check.due("it does not, at it already", x.pawl(0), 1);
    }

    private static void secondDrum() {
        NoseDrum x = Check.drumOf("drum steps 10 jam 9 slack 0; gear 2 to 3;", 2);
        int[] want = {0, 0, 1, 2, 2, 3};
        for (int i = 1; i <= 5; i++) {
            x.turn(1);
            Check.due("second drum at " + i, x.stands(4), want[i]);
        }
        x.turn(-6);
        Check.due("second drum at -1, cut towards 0", x.stands(4), 0);
        x.turn(-1);
        Check.due("second drum at -2", x.stands(4), 9);
        NoseDrum y = Check.drumOf("drum steps 10 jam 9 slack 0;", 1);
        y.turn(13);
        Check.due("without gear", y.stands(4), 3);
    }

    private static void wrong() {
        NoseDrum x = Check.drumOf(DRUM, 10);
        Check.due("turn(601)", x.turn(601), -2);
        Check.due("turn(-601)", x.turn(-601), -2);
        Check.due("turn(min)", x.turn(Integer.MIN_VALUE), -2);
        Check.due("taken", x.stands(1), 0);
        Check.due("follower(4, 0)", x.follower(4, 0), -2);
        Check.due("follower(-1, 0)", x.follower(-1, 0), -2);
        Check.due("follower(0, 5)", x.follower(0, 5), -2);
        Check.due("follower(0, -1)", x.follower(0, -1), -2);
        Check.due("stands(6)", x.stands(6), -1);
        Check.due("stands(-1)", x.stands(-1), -1);
        Check.due("pawl(2)", x.pawl(2), -2);
        Check.due("pawl(-1)", x.pawl(-1), -2);
    }
}
