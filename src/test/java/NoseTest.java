/** Promises 22 to 26: noses, worn, broken, spare, and such that meet. */
public final class NoseTest {
    private static final String DRUM = "drum steps 12 jam 9 slack 0; track; track;"
        + "nose on 0 at 2 wide 2 high 6 steep 2;"
        + "nose on 0 at 2 wide 1 high 5 steep 2;"
        + "nose on 0 at 6 wide 1 high 4 steep 1;"
        + "nose on 1 at 2 wide 2 high 6 steep 2;"
        + "nose on 1 at 8 wide 3 high 60 steep 60;";

    public static void main(String[] args) {
        wears();
        broken();
        noses();
        spares();
        meets();
        Check.finish();
    }

    private static void wears() {
        NoseDrum x = Check.drumOf(DRUM, 8);
        Check.due("wear(0, 2)", x.wear(0, 2), 0);
        Check.due("height", x.nose(0, 3), 4);
        Check.due("profile", x.profile(0, 3), 4);
        Check.due("wear(0, 60)", x.wear(0, 60), 2);
        Check.due("as much as it is high", x.nose(0, 5), 6);
        Check.due("height", x.nose(0, 3), 0);
        Check.due("wear(0, 1)", x.wear(0, 1), 6);
        Check.due("wear(0, 0)", x.wear(0, 0), 1);
        Check.due("wear(0, 0)", x.wear(0, 0), 0);
        Check.due("wear(4, 60)", x.wear(4, 60), 0);
        Check.due("worn", x.nose(4, 5), 60);
        Check.due("wear(0, 61)", x.wear(0, 61), -2);
        Check.due("wear(0, -1)", x.wear(0, -1), -2);
        Check.due("wear(5, 0)", x.wear(5, 0), -2);
        Check.due("wear(-1, 0)", x.wear(-1, 0), -2);
        Check.due("nothing happened", x.nose(0, 5), 0);
    }

    private static void broken() {
        NoseDrum x = Check.drumOf(DRUM, 8);
        Check.due("breaks(2, true)", x.breaks(2, true), 0);
        Check.due("breaks(0, true)", x.breaks(0, true), 0);
        Check.due("bits", x.count(10), 5);
        Check.due("breaks(2, true)", x.breaks(2, true), 1);
        Check.due("height", x.nose(2, 3), 0);
        Check.due("worn", x.nose(2, 5), 0);
        Check.due("wear of a broken one", x.wear(2, 3), 0);
        Check.due("worn", x.nose(2, 5), 3);
        Check.due("height", x.nose(2, 3), 0);
        Check.due("breaks(2, false)", x.breaks(2, false), 1);
        Check.due("breaks(2, false)", x.breaks(2, false), 0);
        Check.due("height", x.nose(2, 3), 1);
        Check.due("bits", x.count(10), 1);
        Check.due("breaks(5, true)", x.breaks(5, true), -2);
        Check.due("breaks(-1, false)", x.breaks(-1, false), -2);
    }

    private static void noses() {
        NoseDrum x = Check.drumOf(DRUM, 8);
        int[] want = {1, 8, 3, 60, 60, 0};
        for (int what = 0; what < want.length; what++) {
            Check.due("nose(4, " + what + ")", x.nose(4, what), want[what]);
        }
        Check.due("nose(4, 6)", x.nose(4, 6), -2);
        Check.due("nose(4, -1)", x.nose(4, -1), -2);
        Check.due("nose(5, 0)", x.nose(5, 0), -2);
        Check.due("nose(-1, 0)", x.nose(-1, 0), -2);
    }

    private static void spares() {
        NoseDrum x = Check.drumOf(DRUM, 8);
        Check.due("spare(): under another one", x.spare(), 2);
        x.wear(0, 1);
        Check.due("spare(): both are needed no more than one", x.spare(), 2);
        x.wear(0, 2);
        Check.due("spare(): none", x.spare(), 0);
        x.wear(0, 0);
        x.breaks(0, true);
        Check.due("spare(): a broken one", x.spare(), 1);
        x.wear(4, 60);
        Check.due("spare(): a worn off one", x.spare(), 17);
        NoseDrum y = Check.drumOf("drum steps 9 jam 9 slack 0; track; nose on 0 at 1 wide 2 high 3 steep 1; nose on 0 at 1 wide 2 high 3 steep 1;", 4);
        Check.due("spare(): each of two that are alike", y.spare(), 3);
        Check.due("spare(): no noses", Check.drumOf("drum steps 9 jam 9 slack 0;", 1).spare(), 0);
    }

    private static void meets() {
        NoseDrum x = Check.drumOf(DRUM, 8);
        // Nose 0 is above 0 at 0 .. 5, nose 2 at 3 .. 9.
        Check.due("meet(0, 2)", x.meet(0, 2), 1);
        Check.due("meet(2, 0)", x.meet(2, 0), 1);
        Check.due("meet(0, 1)", x.meet(0, 1), 1);
        Check.due("meet(0, 3): of two tracks", x.meet(0, 3), 0);
        Check.due("meet(3, 4)", x.meet(3, 4), 0);
        x.wear(2, 3);
        Check.due("meet(0, 2) worn", x.meet(0, 2), 0);
        x.wear(2, 2);
        Check.due("meet(0, 2) worn less", x.meet(0, 2), 1);
        x.breaks(0, true);
        Check.due("meet(0, 2) broken", x.meet(0, 2), 0);
        NoseDrum y = Check.drumOf("drum steps 9 jam 9 slack 0; track; nose on 0 at 0 wide 2 high 3 steep 60; nose on 0 at 7 wide 3 high 3 steep 60;"
            + "nose on 0 at 7 wide 2 high 9 steep 60;", 5);
        Check.due("meet at step 0 alone", y.meet(0, 1), 1);
        Check.due("meet at the last steps", y.meet(1, 2), 1);
        Check.due("meet beside one another", y.meet(0, 2), 0);
        Check.due("meet(0, 0)", x.meet(0, 0), -2);
        Check.due("meet(0, 5)", x.meet(0, 5), -2);
        Check.due("meet(-1, 0)", x.meet(-1, 0), -2);
    }
}
