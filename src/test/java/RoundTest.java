/** What is round: at the last step and at step 0, forth and back. */
public final class RoundTest {
    public static void main(String[] args) {
        profiles();
        rollersAndFlats();
        steeps();
        jams();
        steadies();
        leavesAndSprings();
        worksAndClicks();
        heard();
        turning();
        turningBack();
        secondDrum();
        nosesMeet();
        cuts();
        brings();
        hards();
        phases();
        faults();
        Check.finish();
    }

    /** A drum of one track with noses told as at, wide, high, steep. */
    private static NoseDrum noses(String head, int[]... noses) {
        return drum(head, "", noses);
    }

    /** As above, with followers, pawls and a gear told as they are. */
    private static NoseDrum drum(String head, String rest, int[]... noses) {
        StringBuilder text = new StringBuilder("drum " + head + ";track;");
        for (int[] n : noses) {
            text.append("nose on 0 at " + n[0] + " wide " + n[1] + " high " + n[2] + " steep " + n[3] + ";");
        }
        text.append(rest);
        return Check.drumOf(text.toString(), text.toString().replaceAll("[^;]", "").length());
    }

    private static int[] nose(int at, int wide, int high, int steep) {
        return new int[] {at, wide, high, steep};
    }

    private static void profileDue(String what, NoseDrum x, int... want) {
        Check.due("steps of " + what, x.count(0), want.length);
        for (int s = 0; s < want.length; s++) {
            Check.due(what + ": profile at " + s, x.profile(0, s), want[s]);
        }
    }

    private static void liftDue(String what, NoseDrum x, int follower, int... want) {
        Check.due("steps of " + what, x.count(0), want.length);
        for (int s = 0; s < want.length; s++) {
            Check.due(what + ": lift at " + s, x.lift(follower, s), want[s]);
        }
    }

    private static void steadyDue(String what, NoseDrum x, int follower, int... want) {
        Check.due("steps of " + what, x.count(0), want.length);
        for (int s = 0; s < want.length; s++) {
            Check.due(what + ": steady at " + s, x.steady(follower, s), want[s]);
        }
    }

    private static void profiles() {
        profileDue("at 0", noses("steps 8 jam 5 slack 0", nose(0, 1, 6, 2)), 6, 4, 2, 0, 0, 0, 2, 4);
        profileDue("at 7", noses("steps 8 jam 5 slack 0", nose(7, 1, 6, 2)), 4, 2, 0, 0, 0, 2, 4, 6);
        profileDue("at 7 wide 2", noses("steps 8 jam 5 slack 0", nose(7, 2, 6, 2)), 6, 4, 2, 0, 0, 2, 4, 6);
        profileDue("at 6 wide 2", noses("steps 8 jam 5 slack 0", nose(6, 2, 6, 2)), 4, 2, 0, 0, 2, 4, 6, 6);
        profileDue("at 7 wide 7", noses("steps 8 jam 5 slack 0", nose(7, 7, 6, 2)), 6, 6, 6, 6, 6, 6, 4, 6);
        profileDue("at 7 wide 8", noses("steps 8 jam 5 slack 0", nose(7, 8, 6, 2)), 6, 6, 6, 6, 6, 6, 6, 6);
        profileDue("at 0 wide 7", noses("steps 8 jam 5 slack 0", nose(0, 7, 6, 60)), 6, 6, 6, 6, 6, 6, 6, 0);
        profileDue("at 1 wide 7", noses("steps 8 jam 5 slack 0", nose(1, 7, 6, 5)), 1, 6, 6, 6, 6, 6, 6, 6);
        // The nearest step of it may be either way: three and four steps off, at odd and even numbers of steps.
        profileDue("at 1 of 9", noses("steps 9 jam 5 slack 0", nose(1, 1, 10, 2)), 8, 10, 8, 6, 4, 2, 2, 4, 6);
        profileDue("at 7 of 9", noses("steps 9 jam 5 slack 0", nose(7, 1, 10, 2)), 6, 4, 2, 2, 4, 6, 8, 10, 8);
        profileDue("at 7 of 10", noses("steps 10 jam 5 slack 0", nose(7, 1, 11, 2)), 5, 3, 1, 3, 5, 7, 9, 11, 9, 7);
        profileDue("at 2 of 4", noses("steps 4 jam 5 slack 0", nose(2, 1, 9, 1)), 7, 8, 9, 8);
        profileDue("at 3 of 4", noses("steps 4 jam 5 slack 0", nose(3, 3, 9, 4)), 9, 9, 5, 9);
        // The greatest of two, one over the end.
        profileDue("two", noses("steps 8 jam 5 slack 0", nose(7, 2, 6, 2), nose(2, 1, 4, 4)), 6, 4, 4, 0, 0, 2, 4, 6);
        NoseDrum most = noses("steps 60 jam 5 slack 0", nose(59, 2, 60, 1));
        Check.due("60 steps: at 59", most.profile(0, 59), 60);
        Check.due("60 steps: at 0", most.profile(0, 0), 60);
        Check.due("60 steps: at 29", most.profile(0, 29), 31);
        Check.due("60 steps: at 30", most.profile(0, 30), 31);
        Check.due("60 steps: at 58", most.profile(0, 58), 59);
        Check.due("60 steps: at 1", most.profile(0, 1), 59);
    }

    private static void rollersAndFlats() {
        String both = "roller 2 on 0 spring 9 lag 0;flat 2 on 0 spring 9 lag 0;lever on 0 1 over 2;";
        NoseDrum x = drum("steps 8 jam 9 slack 0", both, nose(0, 1, 6, 60));
        liftDue("roller, nose at 0", x, 0, 6, 5, 2, 0, 0, 0, 2, 5);
        liftDue("flat, nose at 0", x, 1, 6, 6, 6, 0, 0, 0, 6, 6);
        liftDue("lever, nose at 0", x, 2, 3, 2, 1, 0, 0, 0, 1, 2);
        x = drum("steps 8 jam 9 slack 0", both, nose(7, 1, 6, 60));
        liftDue("roller, nose at 7", x, 0, 5, 2, 0, 0, 0, 2, 5, 6);
        liftDue("flat, nose at 7", x, 1, 6, 6, 0, 0, 0, 6, 6, 6);
        x = drum("steps 8 jam 9 slack 0", both, nose(6, 1, 6, 60));
        liftDue("roller, nose at 6", x, 0, 2, 0, 0, 0, 2, 5, 6, 5);
        liftDue("flat, nose at 6", x, 1, 6, 0, 0, 0, 6, 6, 6, 6);
        x = drum("steps 8 jam 9 slack 0", both, nose(1, 1, 6, 60));
        liftDue("roller, nose at 1", x, 0, 5, 6, 5, 2, 0, 0, 0, 2);
        liftDue("flat, nose at 1", x, 1, 6, 6, 6, 6, 0, 0, 0, 6);
    }

    private static void steeps() {
        Check.due("rise to step 0", noses("steps 8 jam 5 slack 0", nose(0, 1, 6, 60), nose(1, 1, 3, 60)).steep(0), 6);
        Check.due("rises to steps 0 and 1, a greater fall", noses("steps 8 jam 5 slack 0", nose(0, 1, 3, 60), nose(1, 1, 6, 60)).steep(0), 3);
        Check.due("rise to the last step", noses("steps 8 jam 5 slack 0", nose(7, 1, 6, 60), nose(0, 1, 4, 60), nose(1, 1, 2, 60)).steep(0), 6);
        Check.due("two rises up to the end, a fall over it", noses("steps 8 jam 5 slack 0", nose(7, 1, 7, 60), nose(6, 1, 4, 60)).steep(0), 4);
        Check.due("a rise over the end alone", noses("steps 8 jam 5 slack 0", nose(0, 4, 7, 60), nose(4, 1, 4, 60), nose(5, 1, 2, 60)).steep(0), 7);
        Check.due("none", noses("steps 8 jam 5 slack 0", nose(3, 8, 7, 60)).steep(0), 0);
    }

    private static void jams() {
        String knife = "knife on 0 spring 60 lag 0;lever on 0 2 over 1;";
        Check.due("at step 0", drum("steps 8 jam 5 slack 0", knife, nose(0, 1, 6, 60)).jams(0), 0);
        Check.due("at step 0, just as jam", drum("steps 8 jam 6 slack 0", knife, nose(0, 1, 6, 60)).jams(0), -1);
        Check.due("at the last step", drum("steps 8 jam 5 slack 0", knife, nose(7, 1, 6, 60)).jams(0), 7);
        Check.due("at the last step, just as jam", drum("steps 8 jam 6 slack 0", knife, nose(7, 1, 6, 60)).jams(0), -1);
        Check.due("a fall is none", drum("steps 8 jam 3 slack 0", knife, nose(0, 1, 6, 60), nose(7, 1, 3, 60)).jams(0), -1);
        Check.due("at steps 0 and 4: the first", drum("steps 8 jam 5 slack 0", knife, nose(4, 1, 6, 60), nose(0, 1, 6, 60)).jams(0), 0);
        Check.due("at steps 7 and 4: the first", drum("steps 8 jam 5 slack 0", knife, nose(7, 1, 6, 60), nose(4, 1, 6, 60)).jams(0), 4);
        // Two steps together would be more than jam, each of them is not.
        Check.due("two rises of jam", drum("steps 8 jam 3 slack 0", knife, nose(0, 1, 6, 3)).jams(0), -1);
        Check.due("a lever's lift", drum("steps 8 jam 5 slack 0", knife, nose(0, 1, 3, 60)).jams(1), 0);
        Check.due("not the knife's below it", drum("steps 8 jam 5 slack 0", knife, nose(0, 1, 3, 60)).jams(0), -1);
    }

    private static void steadies() {
        String knife = "knife on 0 spring 2 lag 0;lever on 0 3 over 2;";
        NoseDrum x = drum("steps 8 jam 1 slack 0", knife, nose(7, 1, 7, 60));
        steadyDue("over the end", x, 0, 5, 3, 1, 0, 0, 0, 0, 7);
        steadyDue("a lever over the end", x, 1, 7, 4, 1, 0, 0, 0, 0, 10);
        steadyDue("from step 0", drum("steps 8 jam 1 slack 0", knife, nose(0, 1, 7, 60)), 0, 7, 5, 3, 1, 0, 0, 0, 0);
        steadyDue("never down", drum("steps 8 jam 1 slack 0", knife, nose(3, 1, 20, 60)), 0, 10, 8, 6, 20, 18, 16, 14, 12);
        steadyDue("never down, from step 0", drum("steps 8 jam 1 slack 0", knife, nose(0, 1, 20, 60)), 0, 20, 18, 16, 14, 12, 10, 8, 6);
        steadyDue("never down, from the last step", drum("steps 8 jam 1 slack 0", knife, nose(7, 1, 20, 60)), 0, 18, 16, 14, 12, 10, 8, 6, 20);
        steadyDue("a little nose below what comes down", drum("steps 8 jam 1 slack 0", knife, nose(6, 1, 9, 60), nose(1, 1, 4, 60)),
            0, 5, 4, 2, 0, 0, 0, 9, 7);
        steadyDue("two noses", drum("steps 4 jam 1 slack 0", "knife on 0 spring 1 lag 0;", nose(0, 1, 9, 60), nose(3, 1, 60, 60)), 0, 59, 58, 57, 60);
    }

    private static void leavesAndSprings() {
        String knife = "knife on 0 spring 2 lag 0;lever on 0 1 over 9;";
        NoseDrum x = drum("steps 8 jam 9 slack 0", knife, nose(7, 1, 5, 60));
        Check.due("at 0 and 1", x.leaves(0, 0), 2);
        Check.due("the first", x.leaves(0, 1), 0);
        Check.due("a lever is cut to the same", x.leaves(1, 0), 0);
        Check.due("a lever's first", x.leaves(1, 1), -1);
        Check.due("the fall to step 0", x.spring(0), 5);
        x = drum("steps 8 jam 9 slack 0", knife, nose(6, 1, 5, 60));
        Check.due("at 7 and 0", x.leaves(0, 0), 2);
        Check.due("the first is 0", x.leaves(0, 1), 0);
        Check.due("the fall to the last step", x.spring(0), 5);
        x = drum("steps 8 jam 9 slack 0", knife, nose(6, 1, 3, 60));
        Check.due("at 7 alone", x.leaves(0, 0), 1);
        Check.due("the first is 7", x.leaves(0, 1), 7);
        x = drum("steps 8 jam 9 slack 0", knife, nose(6, 1, 5, 2));
        Check.due("as the spring", x.leaves(0, 0), 0);
        Check.due("none", x.leaves(0, 1), -1);
        Check.due("as the spring", x.spring(0), 2);
        x = drum("steps 8 jam 9 slack 0", knife, nose(0, 1, 5, 60), nose(1, 1, 4, 60), nose(2, 1, 2, 60));
        Check.due("falls of 1, 2 and 2, a rise of 5 over the end", x.spring(0), 2);
        x = drum("steps 8 jam 9 slack 0", knife, nose(0, 8, 5, 60));
        Check.due("no fall", x.spring(0), 1);
    }

    private static void worksAndClicks() {
        String rest = "knife on 0 spring 60 lag 0;pawl on 0 at 3 teeth 9;pawl on 0 at 6 teeth 9;pawl on 0 at 7 teeth 9;";
        for (int at : new int[] {0, 1, 6, 7}) {
            NoseDrum x = drum("steps 8 jam 60 slack 0", rest, nose(at, 1, 6, 60));
            Check.due("work, nose at " + at, x.work(), 6);
            Check.due("clicks below it, nose at " + at, x.clicks(0), 1);
            Check.due("clicks just at it, nose at " + at, x.clicks(1), 1);
            Check.due("clicks above it, nose at " + at, x.clicks(2), 0);
            x.turn(8);
            Check.due("pawl by turning, nose at " + at, x.pawl(0), 1);
            Check.due("pawl by turning, just at it", x.pawl(1), 1);
            Check.due("pawl by turning, above it", x.pawl(2), 0);
            Check.due("work by turning, nose at " + at, x.stands(2), 6);
            x.turn(-8);
            Check.due("pawl by turning back, nose at " + at, x.pawl(1), 2);
            Check.due("work by turning back, nose at " + at, x.stands(2), 12);
        }
        // As high as at before already: it does not come from below.
        NoseDrum y = drum("steps 8 jam 60 slack 0", rest, nose(7, 1, 6, 60), nose(0, 1, 9, 60));
        Check.due("at 6 and more behind each other", y.clicks(1), 1);
        Check.due("at 7 at step 0", y.clicks(2), 1);
        Check.due("work in two rises", y.work(), 9);
        NoseDrum all = drum("steps 8 jam 60 slack 0", rest, nose(7, 8, 6, 60));
        Check.due("always at it", all.clicks(0), 0);
        Check.due("no work", all.work(), 0);
    }

    private static void heard() {
        String knife = "knife on 0 spring 60 lag 0;";
        for (int at = 0; at < 8; at++) {
            NoseDrum x = drum("steps 8 jam 60 slack 0", knife, nose(at, 1, 6, 60));
            for (int height : new int[] {1, 6}) {
                Check.due("heard of a nose at " + at, x.heard(0, height), 1L << (at + 1) % 8);
            }
            Check.due("above it nothing is heard", x.heard(0, 7), 0);
        }
        for (int at : new int[] {57, 58, 59}) {
            NoseDrum x = drum("steps 60 jam 60 slack 0", knife, nose(at, 1, 6, 60));
            Check.due("heard of a nose at " + at, x.heard(0, 6), 1L << (at + 1) % 60);
        }
        // From 6 to 3 to 0: at the height itself it is not less yet.
        NoseDrum y = drum("steps 8 jam 60 slack 0", knife, nose(7, 1, 6, 60), nose(0, 1, 3, 60));
        Check.due("heard at 3", y.heard(0, 3), 2);
        Check.due("heard at 4", y.heard(0, 4), 1);
        Check.due("heard at 6", y.heard(0, 6), 1);
        NoseDrum all = drum("steps 8 jam 60 slack 0", knife, nose(0, 8, 6, 60));
        Check.due("never less", all.heard(0, 6), 0);
        NoseDrum every = drum("steps 4 jam 60 slack 0", knife, nose(0, 1, 6, 60), nose(2, 1, 6, 60));
        Check.due("every other step", every.heard(0, 1), 10);
    }

    private static void turning() {
        NoseDrum x = drum("steps 4 jam 60 slack 0", "knife on 0 spring 60 lag 1;flat 1 on 0 spring 60 lag 0;", nose(3, 1, 5, 60));
        int[] pos = {0, 0, 0, 5};
        int[] flat = {5, 0, 5, 5};
        for (int angle = 1; angle <= 9; angle++) {
            x.turn(1);
            Check.due("ANGLE is not round", x.stands(0), angle);
            Check.due("POS at " + angle, x.follower(0, 0), pos[angle % 4]);
            Check.due("MOVED at " + angle, x.follower(0, 1), pos[(angle - 1) % 4]);
            Check.due("LIFT at " + angle, x.follower(0, 2), pos[angle % 4]);
            Check.due("POS of the flat at " + angle, x.follower(1, 0), flat[angle % 4]);
            Check.due("SECOND at " + angle, x.stands(4), angle % 4);
        }
        // A jam over the end: from the last step to step 0.
        NoseDrum y = drum("steps 4 jam 4 slack 0", "knife on 0 spring 60 lag 0;", nose(0, 1, 5, 60));
        Check.due("it begins at 5", y.follower(0, 0), 5);
        Check.due("till the last step", y.turn(600), 3);
        Check.due("ANGLE", y.stands(0), 3);
        Check.due("back till step 1", y.turn(-600), 2);
        Check.due("ANGLE", y.stands(0), 1);
        y.wear(0, 1);
        Check.due("as much as jam", y.turn(-600), 600);
        Check.due("ANGLE", y.stands(0), -599);
    }

    private static void turningBack() {
        NoseDrum x = drum("steps 4 jam 60 slack 0", "knife on 0 spring 60 lag 1;", nose(3, 1, 5, 60));
        int[] pos = {0, 0, 0, 5};
        for (int angle = -1; angle >= -9; angle--) {
            x.turn(-1);
            Check.due("ANGLE", x.stands(0), angle);
            Check.due("POS at " + angle, x.follower(0, 0), pos[Math.floorMod(angle, 4)]);
            Check.due("LIFT at " + angle, x.follower(0, 2), pos[Math.floorMod(angle, 4)]);
            Check.due("MOVED at " + angle, x.follower(0, 1), pos[Math.floorMod(angle + 1, 4)]);
            Check.due("SECOND at " + angle, x.stands(4), Math.floorMod(angle, 4));
        }
        NoseDrum y = drum("steps 4 jam 4 slack 0", "knife on 0 spring 60 lag 0;", nose(3, 1, 5, 60));
        Check.due("JAMMED at once, back", y.turn(-1), 0);
        Check.due("JAMMED by it", y.follower(0, 4), 1);
        Check.due("forth till step 2", y.turn(600), 2);
    }

    private static void secondDrum() {
        NoseDrum x = drum("steps 4 jam 60 slack 0", "gear 3 to 2;");
        int[] forth = {1, 3, 0, 2, 3, 1};
        for (int i = 0; i < forth.length; i++) {
            x.turn(1);
            Check.due("SECOND at " + (i + 1), x.stands(4), forth[i]);
        }
        x = drum("steps 4 jam 60 slack 0", "gear 3 to 2;");
        int[] back = {3, 1, 0, 2, 1, 3};
        for (int i = 0; i < back.length; i++) {
            x.turn(-1);
            Check.due("SECOND at " + -(i + 1), x.stands(4), back[i]);
        }
        // same() asks when it is at step 0, cut or not.
        Check.due("same by 3 to 2", x.same(), 2);
        Check.due("same by 1 to 4", drum("steps 4 jam 9 slack 0", "gear 1 to 4;").same(), 4);
        Check.due("same by 1 to 5, cut", drum("steps 4 jam 9 slack 0", "gear 1 to 5;").same(), 1);
        Check.due("same by 1 to 59 of 59", drum("steps 59 jam 9 slack 0", "gear 1 to 59;").same(), 59);
        Check.due("same by 1 to 60 of 59, cut", drum("steps 59 jam 9 slack 0", "gear 1 to 60;").same(), 1);
        Check.due("same by 60 to 60", drum("steps 59 jam 9 slack 0", "gear 60 to 60;").same(), 1);
        Check.due("same by 60 to 1", drum("steps 59 jam 9 slack 0", "gear 60 to 1;").same(), 1);
        Check.due("same by 2 to 3", drum("steps 5 jam 9 slack 0", "gear 2 to 3;").same(), 3);
    }

    private static void nosesMeet() {
        NoseDrum x = noses("steps 8 jam 5 slack 0", nose(0, 1, 6, 3), nose(6, 1, 6, 6), nose(7, 1, 1, 1), nose(3, 1, 7, 6), nose(4, 2, 6, 6));
        // Above 0: nose 0 at 7, 0, 1; nose 1 at 6; nose 2 at 7; nose 3 at 2, 3, 4; nose 4 at 4, 5.
        int[][] want = {{-2, 0, 1, 0, 0}, {0, -2, 0, 0, 0}, {1, 0, -2, 0, 0}, {0, 0, 0, -2, 1}, {0, 0, 0, 1, -2}};
        for (int i = 0; i < 5; i++) {
            for (int j = 0; j < 5; j++) {
                Check.due("meet(" + i + ", " + j + ")", x.meet(i, j), want[i][j]);
            }
        }
        // Over the end: at 7 and at 0, wide or steep.
        NoseDrum y = noses("steps 8 jam 5 slack 0", nose(7, 2, 2, 2), nose(0, 1, 2, 2), nose(1, 1, 2, 2), nose(6, 1, 2, 1));
        Check.due("wide to step 0", y.meet(0, 1), 1);
        Check.due("not wide to step 1", y.meet(0, 2), 0);
        Check.due("steep to step 7", y.meet(0, 3), 1);
        Check.due("not steep to step 0", y.meet(1, 3), 0);
        // Without a nose that holds a track's last step or its first one, it is otherwise.
        NoseDrum z = noses("steps 8 jam 5 slack 0", nose(7, 1, 6, 60), nose(0, 1, 6, 60), nose(7, 2, 5, 60));
        Check.due("spare: the one that is lower at both", z.spare(), 4);
        z.wear(0, 2);
        Check.due("spare: none, by step 7 alone", z.spare(), 1);
        z.wear(0, 0);
        z.wear(1, 2);
        Check.due("spare: none, by step 0 alone", z.spare(), 2);
    }

    private static NoseDrum moved(int steps, int jam, String motion) {
        NoseDrum x = Check.drumOf("drum steps " + steps + " jam " + jam + " slack 0;", 1);
        Check.tell(x, motion);
        Check.due("motion() of " + motion, x.motion() >= 0 ? 1 : 0, 1);
        return x;
    }

    private static void cutDue(NoseDrum x, int sort, int n, int... want) {
        for (int s = 0; s < want.length; s++) {
            Check.due("cut(" + sort + ", " + n + ", " + s + ")", x.cut(sort, n, s), want[s]);
        }
    }

    private static void cuts() {
        NoseDrum x = moved(8, 5, "up 5;hold 6;");
        cutDue(x, 2, 0, 0, 5, 5, 5, 5, 5, 5, 5);
        cutDue(x, 2, 1, 0, 0, 5, 5, 5, 5, 5, 0);
        cutDue(x, 2, 2, 0, 0, 0, 5, 5, 5, 0, 0);
        cutDue(x, 2, 3, 0, 0, 0, 0, 5, 0, 0, 0);
        cutDue(x, 2, 4, 0, 0, 0, 0, 0, 0, 0, 0);
        cutDue(x, 1, 1, 0, 1, 5, 5, 5, 5, 5, 1);
        cutDue(x, 1, 2, 0, 1, 4, 5, 5, 5, 4, 1);
        cutDue(x, 1, 9, 0, 1, 4, 5, 5, 5, 4, 1);
        // Wide rollers and a steep row: nine steps off it is 81, beyond them the row itself.
        NoseDrum y = moved(60, 60, "times 2 { up 60; } hold 57;");
        Check.due("nine behind step 0", y.cut(1, 9, 9), 81);
        Check.due("ten behind step 0", y.cut(1, 9, 10), 120);
        Check.due("nine ahead of step 0", y.cut(1, 9, 51), 81);
        Check.due("ten ahead of step 0", y.cut(1, 9, 50), 120);
        Check.due("eight of nine", y.cut(1, 8, 8), 64);
        Check.due("nine of eight", y.cut(1, 8, 9), 120);
        Check.due("step 1 is the row", y.cut(0, 0, 1), 60);
        Check.due("step 1 by a roller", y.cut(1, 1, 1), 1);
        Check.due("flat, nine ahead of step 0", y.cut(2, 9, 51), 0);
        Check.due("flat, ten ahead of step 0", y.cut(2, 9, 50), 120);
        Check.due("flat, nine behind step 1", y.cut(2, 9, 10), 60);
    }

    private static void brings() {
        NoseDrum x = moved(8, 5, "up 5;hold 6;");
        for (int n = 0; n <= 9; n++) {
            Check.due("flat " + n, x.brings(2, n), n <= 3 ? -1 : 1);
        }
        Check.due("widest flat", x.widest(2), 3);
        // A roller of 1 lifts 4 at 1 and 7: from 5 beside them.
        Check.due("roller 0", x.brings(1, 0), -1);
        Check.due("roller 1", x.brings(1, 1), 1);
        Check.due("widest roller", x.widest(1), 0);
        // 0 3 4 3 0 0 0 5: a roller of 1 cuts 1 at the last step, beside step 0.
        NoseDrum y = moved(8, 5, "up 3;up 1;down 1;down 3;hold 2;up 5;");
        Check.due("roller 1, at the last step", y.brings(1, 1), 7);
        // 0 0 0 0 0 3 4 3 is what a roller is lifted by a nose of 4 at 6, however great it is.
        NoseDrum z = moved(8, 5, "hold 4;up 3;up 1;down 1;");
        Check.due("roller 1, up to the end", z.brings(1, 1), -1);
        Check.due("roller 9, up to the end", z.brings(1, 9), -1);
        Check.due("widest roller, up to the end", z.widest(1), 9);
        Check.due("knife", y.brings(0, 0), -1);
    }

    private static void hards() {
        NoseDrum x = moved(8, 5, "hold 6;up 6;");
        Check.due("more than jam at the last step", x.hard(0), 7);
        Check.due("more than a spring at step 0", x.hard(1), 0);
        Check.due("more than a spring of 5 at step 0", x.hard(5), 0);
        Check.due("just a spring of 6", x.hard(6), -1);
        x = moved(8, 5, "hold 5;up 5;down 5;");
        Check.due("just jam", x.hard(0), -1);
        Check.due("more than a spring at the last step", x.hard(4), 7);
        Check.due("just a spring of 5", x.hard(5), -1);
        x = moved(8, 5, "up 6;down 6;hold 4;up 6;");
        Check.due("at 1 and 7: the first", x.hard(0), 1);
        Check.due("at 2 and 0: the first", x.hard(5), 0);
        // Two steps together are more than jam and spring, each is not.
        x = moved(8, 3, "up 3;up 3;hold 3;down 3;down 3;");
        Check.due("rises of jam", x.hard(0), -1);
        Check.due("falls of the spring", x.hard(3), -1);
        Check.due("more than the spring", x.hard(2), 6);
        x = moved(8, 60, "up 60;down 60;");
        Check.due("just jam of 60", x.hard(0), -1);
        Check.due("just a spring of 60", x.hard(60), -1);
        Check.due("more than 59", x.hard(59), 2);
        x = moved(8, 60, "up 60;up 60;");
        Check.due("the fall of 120 to step 0", x.hard(60), 0);
    }

    private static void phases() {
        String knife = "knife on 0 spring 60 lag 0;";
        for (int at = 0; at < 8; at++) {
            // The row has its 5 at step 3: so many steps on the knife has it.
            NoseDrum x = drum("steps 8 jam 9 slack 0", knife, nose(at, 1, 5, 60));
            Check.motionOf(x, "hold 2;up 5;down 5;", 4);
            Check.due("phase of a nose at " + at, x.phase(0), Math.floorMod(at - 3, 8));
            Check.due("differs of a nose at " + at, x.differs(0), at == 3 ? -1 : Math.min(at, 3));
            Check.due("nearest", x.nearest(), 0);
        }
        // Twice round in a turn: of two shifts the least.
        NoseDrum twice = drum("steps 8 jam 9 slack 0", knife + "flat 0 on 0 spring 60 lag 0;", nose(1, 1, 5, 60), nose(5, 1, 5, 60));
        Check.motionOf(twice, "hold 2;up 5;down 5;hold 2;up 5;", 7);
        Check.due("phases 2 and 6", twice.phase(0), 2);
        Check.due("nearest: the first of two that are as near", twice.nearest(), 0);
        // The row at the last step alone, and a knife at step 0.
        NoseDrum y = drum("steps 8 jam 9 slack 0", knife, nose(0, 1, 5, 60));
        Check.motionOf(y, "hold 6;up 5;", 7);
        Check.due("one step on from the last", y.phase(0), 1);
        Check.due("differs at step 0", y.differs(0), 0);
        NoseDrum z = drum("steps 8 jam 9 slack 0", knife, nose(7, 1, 5, 60));
        Check.motionOf(z, "hold 6;up 5;", 7);
        Check.due("phase 0", z.phase(0), 0);
        Check.due("differs nowhere", z.differs(0), -1);
        z.wear(0, 1);
        Check.due("differs at the last step alone", z.differs(0), 7);
        Check.due("no phase", z.phase(0), -1);
    }

    /** Steps 0 and the last one are steps that are heard. */
    private static void faults() {
        NoseDrum x = drum("steps 8 jam 9 slack 0", "knife on 0 spring 60 lag 0;", nose(7, 1, 5, 60), nose(6, 1, 5, 60));
        Check.numbers(x, 0, 0, 0);
        // Whole it is heard at 0; nose 0 at less than 3 is heard at 7; nose 1 may be as it will.
        Check.due("faults of step 0", x.faults(0, 3, 0), 1 + 2 + 6);
        Check.due("broken", x.guess(0, 3, 0, 0), 2);
        Check.due("worn", x.guess(0, 3, 0, 1), 3);
        Check.due("nothing", x.guess(0, 3, 0, 2), 1);
        Check.due("least", x.guess(0, 3, 0, 3), 1);
        Check.numbers(x, 0, 0, 7);
        Check.due("faults of step 7", x.faults(0, 3, 0), 1 + 3);
        Check.due("broken", x.guess(0, 3, 0, 0), 1);
        Check.due("worn", x.guess(0, 3, 0, 1), 1);
        Check.due("nothing", x.guess(0, 3, 0, 2), 0);
        Check.due("least", x.guess(0, 3, 0, 3), 3);
        Check.numbers(x, 0, 0, 7, 0);
        Check.due("faults of both", x.faults(0, 3, 0), 0);
    }
}
