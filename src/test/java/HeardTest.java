/** Promises 38 to 43: what is heard, which faults let it be so, margins, years of wear. */
public final class HeardTest {
    private static final String DRUM = "drum steps 12 jam 5 slack 2; track; track;"
        + "nose on 0 at 2 wide 2 high 6 steep 2; nose on 1 at 7 wide 1 high 3 steep 9;"
        + "knife on 0 spring 1 lag 2; flat 1 on 0 spring 60 lag 0; lever on 0 3 over 2; knife on 1 spring 60 lag 0;";

    public static void main(String[] args) {
        hearing();
        faultsHeard();
        faultsOfTwo();
        guessesWrong();
        margins();
        years();
        untils();
        Check.finish();
    }

    private static long bits(int... steps) {
        long bits = 0;
        for (int s : steps) {
            bits |= 1L << s;
        }
        return bits;
    }

    private static void hearing() {
        NoseDrum x = Check.drumOf(DRUM, 9);
        // 0: [2,4,6,6,5,4,3,2,1,0,0,0], 1: [4,6,6,6,6,4,2,0,0,0,0,2], 2: [3,6,9,9,7,6,4,3,1,0,0,0]
        Check.due("heard(0, 6)", x.heard(0, 6), bits(4));
        Check.due("heard(0, 4)", x.heard(0, 4), bits(6));
        Check.due("heard(0, 1)", x.heard(0, 1), bits(9));
        Check.due("heard(0, 7)", x.heard(0, 7), 0);
        Check.due("heard(0, 99)", x.heard(0, 99), 0);
        Check.due("heard(1, 3)", x.heard(1, 3), bits(6));
        Check.due("heard(2, 8)", x.heard(2, 8), bits(4));
        Check.due("heard(2, 1)", x.heard(2, 1), bits(9));
        Check.due("heard(3, 3)", x.heard(3, 3), bits(8));
        Check.due("heard(0, 0)", x.heard(0, 0), -2);
        Check.due("heard(0, 100)", x.heard(0, 100), -2);
        Check.due("heard(4, 1)", x.heard(4, 1), -2);
        Check.due("heard(-1, 1)", x.heard(-1, 1), -2);
        x.wear(0, 2);
        Check.due("heard(0, 4) worn", x.heard(0, 4), bits(4));
        NoseDrum y = Check.drumOf("drum steps 60 jam 60 slack 0; track; nose on 0 at 58 wide 1 high 9 steep 60; nose on 0 at 30 wide 3 high 8 steep 60;"
            + "nose on 0 at 59 wide 1 high 3 steep 1; knife on 0 spring 60 lag 0;", 6);
        Check.due("heard high up", y.heard(0, 4), bits(59, 33));
        Check.due("heard over the end", y.heard(0, 3), bits(0, 33));
    }

    private static void faultsDue(NoseDrum x, int follower, int height, int slot, int... want) {
        Check.due("faults", x.faults(follower, height, slot), want[0]);
        for (int what = 0; what <= 3; what++) {
            Check.due("guess(.., " + what + ")", x.guess(follower, height, slot, what), want[what + 1]);
        }
    }

    private static void faultsHeard() {
        NoseDrum x = Check.drumOf(DRUM, 9);
        // Of nose 0 worn by w the knife is heard at 4 behind step 3: 6 - w - k < 4, so at 6 - w for w up to 2.
        Check.numbers(x, 0, 0, 6);
        faultsDue(x, 0, 4, 0, 1 + 1 + 3, 2, 2, 1, 1);
        Check.numbers(x, 0, 3, 5, 5, 5);
        faultsDue(x, 0, 4, 0, 1, 0, 1, 0, 1);
        Check.numbers(x, 0, 1, 4);
        faultsDue(x, 0, 4, 0, 1, 0, 1, 0, 2);
        Check.numbers(x, 0, 2, 7);
        faultsDue(x, 0, 4, 0, 0, 0, 0, 0, 0);
        // Worn by 3 to 6 or broken nothing is heard.
        x.row(1, 0, 0);
        faultsDue(x, 0, 4, 1, 1 + 4, 1, 1, 0, 3);
        // What is worn and broken now plays no part, and stays.
        x.wear(0, 2);
        x.breaks(1, true);
        Check.numbers(x, 0, 0, 6);
        faultsDue(x, 0, 4, 0, 1 + 1 + 3, 2, 2, 1, 1);
        Check.due("worn", x.nose(0, 5), 2);
        Check.due("broken", x.count(10), 2);
        // A lever hears as what it is on.
        faultsDue(x, 2, 4, 0, 1, 0, 1, 0, 1);
        Check.numbers(x, 0, 0, 7);
        faultsDue(x, 2, 4, 0, 1 + 1 + 3, 2, 2, 1, 1);
    }

    private static void faultsOfTwo() {
        NoseDrum x = Check.drumOf("drum steps 10 jam 60 slack 0; track; nose on 0 at 1 wide 1 high 20 steep 60; nose on 0 at 5 wide 1 high 12 steep 60;"
            + "knife on 0 spring 60 lag 0;", 5);
        Check.numbers(x, 3, 0, 6, 2, 6);
        // Nose 0 may be worn by 9 and is heard still, nose 1 by 2.
        faultsDue(x, 0, 10, 3, 1 + 9 + 2, 0, 3, 1, 1);
        Check.numbers(x, 3, 0, 2);
        faultsDue(x, 0, 10, 3, 1 + 7, 2, 2, 0, 3);
        Check.numbers(x, 3, 0, 6);
        faultsDue(x, 0, 10, 3, 1, 1, 0, 0, 0);
        faultsDue(x, 0, 12, 3, 2, 1, 1, 0, 9);
        faultsDue(x, 0, 99, 3, 0, 0, 0, 0, 0);
    }

    private static void guessesWrong() {
        NoseDrum x = Check.drumOf(DRUM, 9);
        Check.due("faults of an empty slot", x.faults(0, 4, 0), -6);
        Check.due("guess of an empty slot", x.guess(0, 4, 0, 0), -6);
        Check.due("guess of an empty slot, what 4", x.guess(0, 4, 0, 4), -2);
        Check.due("faults of an empty slot, no follower", x.faults(4, 4, 0), -2);
        Check.due("faults of an empty slot, no height", x.faults(0, 100, 0), -2);
        Check.due("faults of no slot", x.faults(0, 4, 4), -2);
        Check.due("faults of no slot", x.faults(0, 4, -1), -2);
        Check.due("guess of no slot", x.guess(0, 4, 4, 0), -2);
        Check.numbers(x, 0, 0, 6);
        Check.due("guess, what 4", x.guess(0, 4, 0, 4), -2);
        Check.due("guess, what -1", x.guess(0, 4, 0, -1), -2);
        Check.due("faults, height 0", x.faults(0, 0, 0), -2);
        Check.due("guess, follower -1", x.guess(-1, 4, 0, 0), -2);
        Check.numbers(x, 0, 0, 6, 12);
        Check.due("faults of no step", x.faults(0, 4, 0), -2);
        Check.due("guess of no step", x.guess(0, 4, 0, 0), -2);
        Check.numbers(x, 0, 3, 6, -1);
        Check.due("faults of a step below 0", x.faults(0, 4, 0), -2);
        Check.numbers(x, 0, 3, 6, (1L << 32) + 6);
        Check.due("faults of a step far above", x.faults(0, 4, 0), -2);
        Check.numbers(x, 0, 2, 6, (1L << 32) + 6);
        Check.due("faults of a step that is cut", x.faults(0, 4, 0), 5);
    }

    private static void margins() {
        NoseDrum x = Check.drumOf(DRUM, 9);
        Check.due("margin(0, 0, 4)", x.margin(0, 0, 4), 0);
        Check.due("margin(0, 1, 3)", x.margin(0, 1, 3), 1);
        Check.due("margin(1, 3, 1)", x.margin(1, 3, 1), 2);
        Check.due("margin(1, 3, 3)", x.margin(1, 3, 3), 0);
        Check.due("margin(1, 3, 99)", x.margin(1, 3, 99), 3);
        Check.due("margin(1, 0, 4): of another track", x.margin(1, 0, 4), 3);
        x.wear(1, 2);
        Check.due("margin as if it were not worn", x.margin(1, 3, 2), 1);
        Check.due("it stays worn", x.nose(1, 5), 2);
        x.breaks(1, true);
        Check.due("margin of a broken one", x.margin(1, 3, 1), 3);
        Check.due("margin(2, 0, 4)", x.margin(2, 0, 4), -2);
        Check.due("margin(-1, 0, 4)", x.margin(-1, 0, 4), -2);
        Check.due("margin(0, 4, 4)", x.margin(0, 4, 4), -2);
        Check.due("margin(0, 0, 0)", x.margin(0, 0, 0), -2);
        Check.due("margin(0, 0, 100)", x.margin(0, 0, 100), -2);
        // Another nose under it is heard at the same step, as long as it is whole.
        NoseDrum y = Check.drumOf("drum steps 9 jam 60 slack 0; track; nose on 0 at 3 wide 1 high 50 steep 60; nose on 0 at 3 wide 1 high 20 steep 60;"
            + "knife on 0 spring 60 lag 0;", 5);
        Check.due("margin over another", y.margin(0, 0, 15), 50);
        y.wear(1, 10);
        Check.due("margin over a worn one", y.margin(0, 0, 15), 35);
    }

    private static int worn(NoseDrum x, int noses) {
        int sum = 0;
        for (int i = 0; i < noses; i++) {
            sum += x.nose(i, 5);
        }
        return sum;
    }

    private static void years() {
        // Draws from seed 1: x 1103527590, 377401575, 662824084, 1147902781; draws 38, 58, 13, 15.
        String drum = "drum steps 9 jam 60 slack 0; track; nose on 0 at 3 wide 1 high 50 steep 60; nose on 0 at 6 wide 1 high 1 steep 60;";
        NoseDrum x = Check.drumOf(drum, 4);
        Check.due("years(1, 1, 38)", x.years(1, 1, 38), 0);
        Check.due("years(1, 1, 39)", x.years(1, 1, 39), 1);
        Check.due("nose 0", x.nose(0, 5), 1);
        Check.due("nose 1", x.nose(1, 5), 0);
        Check.due("years(1, 2, 16)", x.years(1, 2, 16), 2);
        Check.due("nose 0", x.nose(0, 5), 2);
        Check.due("nose 1", x.nose(1, 5), 1);
        Check.due("years(1, 2, 16): one is worn off", x.years(1, 2, 16), 1);
        Check.due("nose 1", x.nose(1, 5), 1);
        Check.due("years(0, 60, 100)", x.years(0, 60, 100), 47);
        Check.due("worn off", worn(x, 2), 51);
        x.wear(0, 0);
        Check.due("years(2000000000, 60, 0)", x.years(2000000000, 60, 0), 0);
        x.breaks(0, true);
        Check.due("a broken one is worn, too", x.years(5, 7, 100), 7);
        Check.due("years(-1, 1, 1)", x.years(-1, 1, 1), -2);
        Check.due("years(2000000001, 1, 1)", x.years(2000000001, 1, 1), -2);
        Check.due("years(1, 0, 1)", x.years(1, 0, 1), -2);
        Check.due("years(1, 61, 1)", x.years(1, 61, 1), -2);
        Check.due("years(1, 1, -1)", x.years(1, 1, -1), -2);
        Check.due("years(1, 1, 101)", x.years(1, 1, 101), -2);
        Check.due("years of no nose", Check.drumOf("drum steps 9 jam 60 slack 0;", 1).years(1, 60, 100), 0);
    }

    private static void untils() {
        NoseDrum x = Check.drumOf(DRUM, 9);
        // At odds of 100 each year wears each nose by one.
        Check.due("until at once", x.until(0, 4, 7, 60, 100), 1);
        Check.due("until the third year", x.until(3, 1, 7, 60, 100), 3);
        Check.due("until beyond n", x.until(3, 1, 7, 2, 100), -1);
        Check.due("until never", x.until(3, 99, 7, 60, 100), -1);
        Check.due("until without odds", x.until(3, 1, 7, 60, 0), -1);
        Check.due("in thought", worn(x, 2), 0);
        // Draws from seed 1 are 38, 58, 13, 15: nose 1 has the second of each two.
        Check.due("until by draws: 15 at the second year", x.until(3, 3, 1, 60, 16), 2);
        Check.due("until by draws: 58 at the first", x.until(3, 3, 1, 60, 59), 1);
        x.wear(1, 1);
        Check.due("from what is worn now", x.until(3, 1, 7, 60, 100), 2);
        x.breaks(1, true);
        Check.due("a broken one", x.until(3, 1, 7, 60, 100), -1);
        Check.due("until(4, ..)", x.until(4, 1, 7, 60, 100), -2);
        Check.due("until(.., 0, ..)", x.until(0, 0, 7, 60, 100), -2);
        Check.due("until(.., 100, ..)", x.until(0, 100, 7, 60, 100), -2);
        Check.due("until of seed -1", x.until(0, 4, -1, 60, 100), -2);
        Check.due("until of 0 years", x.until(0, 4, 7, 0, 100), -2);
        Check.due("until of 61 years", x.until(0, 4, 7, 61, 100), -2);
        Check.due("until of odds 101", x.until(0, 4, 7, 60, 101), -2);
        Check.due("until without a drum", new NoseDrum().until(0, 4, 7, 60, 100), -2);
    }
}
