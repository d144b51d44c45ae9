import java.math.BigInteger;

/** How much is just enough and what is one too much: slack, jam, lag, wear, levers, faults, margins, years, turns. */
public final class LimitTest {
    public static void main(String[] args) {
        slack();
        slackMovesNothing();
        jam();
        jamAbovePos();
        jamOfSorts();
        lags();
        levers();
        covers();
        wears();
        wearWhileTurning();
        faultsOfHeights();
        faultsHeard();
        margins();
        draws();
        untils();
        sames();
        rooms();
        clashes();
        heights();
        Check.finish();
    }

    private static void due(String call, long got, long want) {
        Check.due(call, got, want);
    }

    private static NoseDrum drum(String text) {
        return Check.drumOf(text, text.replaceAll("[^;]", "").length());
    }

    /** The first slack steps of the other way are taken, and nothing turns; the first step of all has none. */
    private static void slack() {
        for (int slack = 0; slack <= 9; slack++) {
            for (int way : new int[] {1, -1}) {
                NoseDrum x = drum("drum steps 12 jam 5 slack " + slack + ";");
                due("slack left at first", x.stands(3), 0);
                due("the first step of all", x.turn(way), 1);
                due("it turns", x.stands(0), way);
                due("no slack of this way", x.stands(3), 0);
                for (int i = 1; i <= slack; i++) {
                    due("slack " + i, x.turn(-way), 1);
                    due("nothing turns", x.stands(0), way);
                    due("it is taken", x.stands(1), 1 + i);
                    due("what is left", x.stands(3), slack - i);
                }
                due("behind the slack", x.turn(-way), 1);
                due("it turns", x.stands(0), 0);
                due("it is taken", x.stands(1), 2 + slack);
                due("none is left", x.stands(3), 0);
                due("on this way there is no more of it", x.turn(-way * 30), 30);
                due("all turn", x.stands(0), -way * 30);
                // Turned again within the slack, it begins anew.
                if (slack > 1) {
                    due("one of the slack", x.turn(way), 1);
                    due("left", x.stands(3), slack - 1);
                    due("the other way again", x.turn(-way), 1);
                    due("left anew", x.stands(3), slack - 1);
                    due("nothing turned", x.stands(0), -way * 30);
                    due("the rest of it", x.turn(-way * (slack - 1)), slack - 1);
                    due("left", x.stands(3), 0);
                    due("nothing turned", x.stands(0), -way * 30);
                }
            }
        }
    }

    private static void slackMovesNothing() {
        NoseDrum x = drum("drum steps 6 jam 60 slack 2;track;nose on 0 at 1 wide 1 high 9 steep 60;knife on 0 spring 2 lag 1;lever on 0 2 over 1;"
            + "pawl on 0 at 5 teeth 9;gear 2 to 1;");
        x.turn(2);
        due("POS", x.follower(0, 0), 7);
        for (int i = 0; i < 2; i++) {
            due("a step of slack", x.turn(-1), 1);
            due("POS", x.follower(0, 0), 7);
            due("MOVED", x.follower(0, 1), 9);
            due("POS of the lever", x.follower(1, 0), 14);
            due("WORK", x.stands(2), 9);
            due("pawl", x.pawl(0), 1);
            due("SECOND", x.stands(4), 4);
        }
        x.wear(0, 9);
        x.turn(1);
        due("worn, by a step of slack POS stays", x.follower(0, 0), 7);
        due("LIFT is changed at once", x.lift(0, 1), 0);
        x.turn(2);
        due("worn, by the next step that turns it comes down", x.follower(0, 0), 5);
    }

    /** As much as jam above POS is taken, one more is not. */
    private static void jam() {
        for (int jam = 1; jam < 60; jam++) {
            String head = "drum steps 6 jam " + jam + " slack 0;track;nose on 0 at ";
            NoseDrum x = drum(head + "2 wide 1 high " + jam + " steep 60;knife on 0 spring 60 lag 0;");
            due("just jam " + jam, x.turn(6), 6);
            due("jams() of just jam", x.jams(0), -1);
            due("none was JAMMED", x.stands(5), 0);
            NoseDrum y = drum(head + "2 wide 1 high " + (jam + 1) + " steep 60;knife on 0 spring 60 lag 0;");
            due("more than jam " + jam, y.turn(6), 1);
            due("jams() of more than jam", y.jams(0), 2);
            due("one was JAMMED", y.stands(5), 1);
            due("STEPS that were taken", y.stands(1), 1);
            due("ANGLE", y.stands(0), 1);
            due("POS", y.follower(0, 0), 0);
            due("WORK", y.stands(2), 0);
            due("JAMMED by it", y.follower(0, 4), 1);
            y.turn(-6);
            due("ANGLE from the other side", y.stands(0), -3);
        }
        NoseDrum most = drum("drum steps 6 jam 60 slack 0;track;nose on 0 at 2 wide 1 high 60 steep 60;knife on 0 spring 60 lag 0;");
        due("nothing is above jam 60", most.turn(600), 600);
    }

    /** It is POS that counts, not the lift of the step ahead. */
    private static void jamAbovePos() {
        NoseDrum x = drum("drum steps 6 jam 2 slack 0;track;nose on 0 at 0 wide 1 high 6 steep 60;nose on 0 at 2 wide 1 high 6 steep 60;"
            + "knife on 0 spring 2 lag 0;");
        due("jams() by lifts", x.jams(0), 0);
        // POS 6 4 6 4 2 0, and then 6 is too much.
        due("turn", x.turn(12), 5);
        due("POS", x.follower(0, 0), 0);
        due("WORK", x.stands(2), 2);
        due("LIFT where it stands", x.follower(0, 2), 0);
        NoseDrum y = drum("drum steps 6 jam 2 slack 0;track;nose on 0 at 0 wide 1 high 6 steep 60;nose on 0 at 2 wide 1 high 6 steep 60;"
            + "knife on 0 spring 3 lag 0;");
        due("a stronger spring", y.turn(12), 1);
        due("POS", y.follower(0, 0), 3);
    }

    /** Knives, rollers and flats jam, the first of several is told; a lever does not. */
    private static void jamOfSorts() {
        String head = "drum steps 9 jam 5 slack 0;track;track;nose on 0 at 4 wide 1 high 6 steep 60;";
        String[] sorts = {"knife on 0 spring 9 lag 0;", "roller 1 on 0 spring 9 lag 0;", "flat 1 on 0 spring 9 lag 0;"};
        // The roller comes to 5 at 3 and to 6 at 4, so that it does not jam; by more it does.
        int[] taken = {3, 9, 2};
        for (int i = 0; i < 3; i++) {
            NoseDrum x = drum(head + sorts[i]);
            due("turn of " + sorts[i], x.turn(9), taken[i]);
            NoseDrum y = drum(head + "knife on 1 spring 1 lag 0;lever on 0 9 over 1;" + sorts[i] + sorts[i]);
            due("turn", y.turn(9), taken[i]);
            due("not by the first knife", y.follower(0, 4), 0);
            due("not by the lever", y.follower(1, 4), 0);
            due("by the first of them", y.follower(2, 4), taken[i] == 9 ? 0 : 1);
            due("not by the second of them", y.follower(3, 4), 0);
        }
        NoseDrum z = drum("drum steps 9 jam 4 slack 0;track;nose on 0 at 4 wide 1 high 6 steep 60;roller 1 on 0 spring 9 lag 0;");
        due("a roller, too", z.turn(9), 2);
        NoseDrum lever = drum("drum steps 9 jam 6 slack 0;track;nose on 0 at 4 wide 1 high 6 steep 60;knife on 0 spring 9 lag 0;lever on 0 9 over 1;");
        due("a lever never", lever.turn(9), 9);
        due("jams() of the lever", lever.jams(1), 4);
    }

    private static void lags() {
        for (int lag = 0; lag <= 20; lag++) {
            NoseDrum x = drum("drum steps 60 jam 60 slack 1;track;nose on 0 at 30 wide 1 high 60 steep 1;knife on 0 spring 60 lag " + lag + ";");
            due("at first", x.follower(0, 1), 30);
            for (int i = 1; i <= 25; i++) {
                x.turn(1);
                due("MOVED, lag " + lag + " at " + i, x.follower(0, 1), 30 + Math.max(0, i - lag));
            }
            // A step of slack is none that turned; steps back are such as those forth.
            x.turn(-1);
            due("slack", x.follower(0, 1), 30 + 25 - lag);
            x.turn(-1);
            due("a step back", x.follower(0, 1), lag == 0 ? 30 + 24 : 30 + 25 - (lag - 1));
            x.turn(-1);
            due("two steps back", x.follower(0, 1), lag < 2 ? 30 + 23 + lag : 30 + 25 - (lag - 2));
        }
    }

    /** 9,999 at most, in lifts, in places and in steady turns; less than that is cut alone. */
    private static void levers() {
        NoseDrum x = drum("drum steps 4 jam 60 slack 0;track;nose on 0 at 1 wide 1 high 60 steep 60;nose on 0 at 2 wide 1 high 5 steep 60;"
            + "knife on 0 spring 60 lag 0;lever on 0 9 over 1;lever on 1 9 over 1;lever on 2 9 over 4;lever on 3 1 over 9;lever on 4 9 over 1;"
            + "lever on 3 9 over 9;lever on 3 8 over 9;lever on 0 1 over 7;");
        int[] at1 = {60, 540, 4860, 9999, 1111, 9999, 9999, 8888, 8};
        int[] at2 = {5, 45, 405, 911, 101, 909, 911, 809, 0};
        x.turn(1);
        for (int f = 0; f < at1.length; f++) {
            due("LIFT of " + f, x.lift(f, 1), at1[f]);
            due("LIFT of " + f, x.lift(f, 2), at2[f]);
            due("STEADY of " + f, x.steady(f, 1), at1[f]);
            due("STEADY of " + f, x.steady(f, 2), at2[f]);
            due("POS of " + f, x.follower(f, 0), at1[f]);
            due("MOVED of " + f, x.follower(f, 1), at1[f]);
            due("LIFT where it is of " + f, x.follower(f, 2), at1[f]);
            due("LIFT at 0 of " + f, x.lift(f, 0), 0);
        }
        x.turn(1);
        for (int f = 0; f < at2.length; f++) {
            due("POS then of " + f, x.follower(f, 0), at2[f]);
        }
    }

    private static void covers() {
        NoseDrum x = drum("drum steps 60 jam 60 slack 0;track;nose on 0 at 0 wide 1 high 60 steep 2;");
        // 60 at 0, and by 2 less each step either way: 0 at 30.
        for (int n = 0; n <= 60; n++) {
            due("covers above " + n, x.covers(0, n), n == 60 ? 0 : 2 * ((59 - n) / 2) + 1);
        }
        NoseDrum all = drum("drum steps 4 jam 60 slack 0;track;nose on 0 at 0 wide 4 high 60 steep 1;");
        due("all of them", all.covers(0, 59), 4);
        due("none of them", all.covers(0, 60), 0);
    }

    private static void wears() {
        for (int high : new int[] {1, 2, 9, 59, 60}) {
            NoseDrum x = drum("drum steps 4 jam 60 slack 0;track;nose on 0 at 0 wide 1 high " + high + " steep 1;");
            int was = 0;
            for (int w : new int[] {0, 1, high - 1, high, 60, 0, 60, 1}) {
                due("wear(0, " + w + ") of " + high, x.wear(0, w), was);
                was = Math.min(w, high);
                due("WORN", x.nose(0, 5), was);
                due("how high it is", x.nose(0, 3), high - was);
                due("PROFILE", x.profile(0, 0), high - was);
                due("PROFILE beside it", x.profile(0, 1), Math.max(0, high - was - 1));
            }
            due("refused", x.wear(0, 61), -2);
            due("refused", x.wear(0, -1), -2);
            due("it stays", x.nose(0, 5), was);
            due("BROKEN", x.breaks(0, true), 0);
            due("how high it is", x.nose(0, 3), 0);
            due("WORN stays", x.nose(0, 5), was);
            due("wear of a BROKEN one", x.wear(0, 0), was);
            due("WORN", x.nose(0, 5), 0);
            due("how high it is", x.nose(0, 3), 0);
            due("whole", x.breaks(0, false), 1);
            due("how high it is", x.nose(0, 3), high);
        }
    }

    private static void wearWhileTurning() {
        NoseDrum x = drum("drum steps 4 jam 5 slack 0;track;nose on 0 at 0 wide 4 high 9 steep 1;knife on 0 spring 60 lag 0;lever on 0 2 over 1;"
            + "pawl on 0 at 4 teeth 9;");
        x.wear(0, 8);
        due("PROFILE at once", x.profile(0, 2), 1);
        due("POS stays", x.follower(0, 0), 9);
        due("POS of the lever stays", x.follower(1, 0), 18);
        due("LIFT at once", x.follower(1, 2), 2);
        x.turn(1);
        due("POS", x.follower(0, 0), 1);
        due("POS of the lever", x.follower(1, 0), 2);
        x.wear(0, 3);
        due("just jam", x.turn(1), 1);
        due("POS", x.follower(0, 0), 6);
        due("pawl", x.pawl(0), 1);
        x.breaks(0, true);
        x.turn(1);
        due("POS", x.follower(0, 0), 0);
        x.breaks(0, false);
        due("more than jam", x.turn(1), 0);
        due("JAMMED", x.stands(5), 1);
        x.wear(0, 4);
        due("just jam", x.turn(1), 1);
        due("WORK", x.stands(2), 10);
    }

    /** WORN by 1 .. 9, as much as it is high at most; or BROKEN; or nothing is. */
    private static void faultsOfHeights() {
        for (int high : new int[] {1, 2, 8, 9, 10, 60}) {
            NoseDrum x = drum("drum steps 9 jam 60 slack 0;track;track;nose on 0 at 3 wide 1 high " + high + " steep 60;"
                + "knife on 1 spring 60 lag 0;knife on 0 spring 60 lag 0;");
            x.row(0, 0, 0);
            // Of the other track nothing is heard whatever befalls the nose.
            due("silent of the other track, high " + high, x.faults(0, 1, 0), 2 + Math.min(9, high));
            due("BROKEN", x.guess(0, 1, 0, 0), 1);
            due("WORN", x.guess(0, 1, 0, 1), 1);
            due("nothing", x.guess(0, 1, 0, 2), 1);
            due("least", x.guess(0, 1, 0, 3), 1);
            // At height 1 the nose is heard until it is worn off.
            due("silent of its own, high " + high, x.faults(1, 1, 0), high <= 9 ? 2 : 1);
            due("BROKEN", x.guess(1, 1, 0, 0), 1);
            due("WORN", x.guess(1, 1, 0, 1), high <= 9 ? 1 : 0);
            due("nothing", x.guess(1, 1, 0, 2), 0);
            due("least", x.guess(1, 1, 0, 3), high <= 9 ? high : 0);
            Check.numbers(x, 0, 0, 4);
            due("heard at 4, high " + high, x.faults(1, 1, 0), 1 + Math.min(9, high - 1));
            due("BROKEN", x.guess(1, 1, 0, 0), 0);
            due("WORN", x.guess(1, 1, 0, 1), high > 1 ? 1 : 0);
            due("nothing", x.guess(1, 1, 0, 2), 1);
            due("least", x.guess(1, 1, 0, 3), high > 1 ? 1 : 0);
            due("heard of the other track", x.faults(0, 1, 0), 0);
        }
    }

    /** Whatever is WORN and BROKEN now; a step told twice counts once; any order; just what is told. */
    private static void faultsHeard() {
        NoseDrum x = drum("drum steps 9 jam 60 slack 0;track;nose on 0 at 1 wide 1 high 5 steep 60;nose on 0 at 5 wide 1 high 3 steep 60;"
            + "knife on 0 spring 60 lag 0;");
        long[][] rows = {{2, 6}, {6, 2}, {2, 2, 6}, {6, 6, 2, 2, 6}};
        for (int round = 0; round < 3; round++) {
            for (long[] row : rows) {
                Check.numbers(x, 1, 3, row);
                // Whole, or nose 0 worn by 1 .. 3, or nose 1 by 1.
                due("both, faults", x.faults(0, 2, 1), 1 + 3 + 1);
                due("both, WORN", x.guess(0, 2, 1, 1), 3);
                due("both, BROKEN", x.guess(0, 2, 1, 0), 0);
            }
            Check.numbers(x, 1, 3, 2);
            due("one alone, faults", x.faults(0, 2, 1), 1 + 2);
            due("one alone, BROKEN", x.guess(0, 2, 1, 0), 2);
            due("one alone, least", x.guess(0, 2, 1, 3), 2);
            Check.numbers(x, 1, 3, 2, 6, 7);
            due("one more, faults", x.faults(0, 2, 1), 0);
            x.wear(round, 60);
            x.breaks(1 - round, true);
            x.turn(5);
        }
    }

    private static void margins() {
        NoseDrum x = drum("drum steps 9 jam 60 slack 0;track;nose on 0 at 3 wide 1 high 60 steep 60;knife on 0 spring 60 lag 0;lever on 0 2 over 1;");
        for (int w : new int[] {0, 7, 60}) {
            x.wear(0, w);
            due("at 1", x.margin(0, 0, 1), 59);
            due("at 2", x.margin(0, 0, 2), 58);
            due("at 59", x.margin(0, 0, 59), 1);
            due("at 60", x.margin(0, 0, 60), 0);
            due("at 61", x.margin(0, 0, 61), 60);
            due("at 99", x.margin(0, 0, 99), 60);
            due("of the lever at 99", x.margin(0, 1, 99), 10);
            due("of the lever at 1", x.margin(0, 1, 1), 59);
            due("it stays WORN", x.nose(0, 5), w);
        }
        NoseDrum least = drum("drum steps 9 jam 60 slack 0;track;nose on 0 at 3 wide 1 high 1 steep 60;knife on 0 spring 60 lag 0;");
        due("high 1 at 1", least.margin(0, 0, 1), 0);
        due("high 1 at 2", least.margin(0, 0, 2), 1);
        // Heard at 4 whole, worn by 1 at 3, worn off at 4 again by the other: any less counts, too.
        NoseDrum y = drum("drum steps 9 jam 60 slack 0;track;nose on 0 at 2 wide 2 high 5 steep 60;nose on 0 at 3 wide 1 high 3 steep 60;"
            + "nose on 0 at 2 wide 1 high 5 steep 60;knife on 0 spring 60 lag 0;");
        due("heard whole", y.heard(0, 5), 16);
        due("at any less", y.margin(0, 0, 5), 0);
        due("of the one below", y.margin(1, 0, 5), 3);
        due("of the one beside", y.margin(2, 0, 5), 5);
    }

    /** The draws by numbers of any length. */
    private static int[] worn(long seed, int years, int odds, int[] high) {
        int[] worn = new int[high.length];
        BigInteger x = BigInteger.valueOf(seed);
        for (int y = 0; y < years; y++) {
            for (int i = 0; i < high.length; i++) {
                x = x.multiply(BigInteger.valueOf(1103515245)).add(BigInteger.valueOf(12345)).mod(BigInteger.valueOf(2147483648L));
                int draw = x.divide(BigInteger.valueOf(65536)).mod(BigInteger.valueOf(100)).intValue();
                if (draw < odds && worn[i] < high[i]) {
                    worn[i]++;
                }
            }
        }
        return worn;
    }

    private static void draws() {
        int[] high = new int[24];
        StringBuilder text = new StringBuilder("drum steps 60 jam 60 slack 0;track;");
        for (int i = 0; i < 24; i++) {
            high[i] = i % 5 == 0 ? 60 : 1 + i;
            text.append("nose on 0 at " + i + " wide 1 high " + high[i] + " steep 60;");
        }
        for (long seed : new long[] {0, 1, 2, 65535, 65536, 1999999999, 2000000000}) {
            for (int odds : new int[] {0, 1, 2, 50, 99, 100}) {
                for (int n : new int[] {1, 2, 59, 60}) {
                    NoseDrum x = drum(text.toString());
                    int[] want = worn(seed, n, odds, high);
                    int sum = 0;
                    for (int w : want) {
                        sum += w;
                    }
                    due("years(" + seed + ", " + n + ", " + odds + ")", x.years((int) seed, n, odds), sum);
                    for (int i = 0; i < 24; i++) {
                        due("WORN of " + i, x.nose(i, 5), want[i]);
                    }
                    if (odds == 0) {
                        due("none is WORN", sum, 0);
                    }
                    if (odds == 100 && n == 60) {
                        due("all are worn off", x.covers(0, 0), 0);
                        due("nothing more", x.years((int) seed, n, odds), 0);
                    }
                }
            }
        }
        // Each call begins with its seed; what was WORN counts on, as much as it is high at most.
        NoseDrum y = drum(text.toString());
        y.years(77, 30, 30);
        y.years(77, 30, 30);
        int[] most = new int[24];
        java.util.Arrays.fill(most, 60);
        int[] once = worn(77, 30, 30, most);
        for (int i = 0; i < 24; i++) {
            due("twice WORN of " + i, y.nose(i, 5), Math.min(high[i], 2 * once[i]));
        }
    }

    private static void untils() {
        NoseDrum x = drum("drum steps 9 jam 60 slack 0;track;nose on 0 at 3 wide 1 high 60 steep 60;knife on 0 spring 60 lag 0;");
        due("by the 60th year", x.until(0, 1, 5, 60, 100), 60);
        due("not by the 59th", x.until(0, 1, 5, 59, 100), -1);
        due("by the first year", x.until(0, 60, 5, 1, 100), 1);
        due("not above it", x.until(0, 61, 5, 60, 100), -1);
        due("without odds", x.until(0, 60, 5, 60, 0), -1);
        due("in thought alone", x.nose(0, 5), 0);
        x.wear(0, 30);
        due("from what is WORN now", x.until(0, 1, 5, 60, 100), 30);
        due("just as many years", x.until(0, 1, 5, 30, 100), 30);
        due("one less", x.until(0, 1, 5, 29, 100), -1);
        x.wear(0, 60);
        due("worn off", x.until(0, 1, 5, 60, 100), -1);
        // Odds 39 take seed 1's first draw of 38, odds 38 do not; its second is 58, its third 13.
        x.wear(0, 0);
        due("odds 39", x.until(0, 60, 1, 60, 39), 1);
        due("odds 38", x.until(0, 60, 1, 60, 38), 3);
        due("odds 38, two years", x.until(0, 60, 1, 2, 38), -1);
        due("odds 38, three years", x.until(0, 60, 1, 3, 38), 3);
    }

    /** 1 .. 9,999 turns: 9,996 are the most that there can be, 10,000 the first that are too many. */
    private static void sames() {
        String knife = "track;nose on 0 at 3 wide 1 high 9 steep 60;knife on 0 spring 60 lag 0;";
        due("one turn", drum("drum steps 60 jam 60 slack 0;" + knife).same(), 1);
        due("9,996", drum("drum steps 60 jam 60 slack 0;" + knife + "pawl on 0 at 1 teeth 12;pawl on 0 at 9 teeth 17;gear 1 to 49;").same(), 9996);
        // 400 turns bring the pawls back; of these 25 times bring the second drum to 57 times 10,000 by 59, just behind step 0.
        due("10,000", drum("drum steps 29 jam 60 slack 0;" + knife + "pawl on 0 at 1 teeth 16;pawl on 0 at 9 teeth 25;gear 57 to 59;").same(), -1);
        due("by the gear alone", drum("drum steps 29 jam 60 slack 0;" + knife + "gear 57 to 59;").same(), 29);
        due("by the pawls alone", drum("drum steps 29 jam 60 slack 0;" + knife + "pawl on 0 at 1 teeth 16;pawl on 0 at 9 teeth 25;").same(), 400);
        due("a pawl that never goes on", drum("drum steps 29 jam 60 slack 0;" + knife + "pawl on 0 at 10 teeth 29;").same(), 1);
        // Two clicks a turn by four teeth are two turns, by three three, by two one.
        String two = "track;nose on 0 at 3 wide 1 high 9 steep 60;nose on 0 at 6 wide 1 high 9 steep 60;knife on 0 spring 60 lag 0;";
        due("four teeth", drum("drum steps 29 jam 60 slack 0;" + two + "pawl on 0 at 9 teeth 4;").same(), 2);
        due("three teeth", drum("drum steps 29 jam 60 slack 0;" + two + "pawl on 0 at 9 teeth 3;").same(), 3);
        due("two teeth", drum("drum steps 29 jam 60 slack 0;" + two + "pawl on 0 at 9 teeth 2;").same(), 1);
    }

    /** Motions on one track are no more than steps together. */
    private static void rooms() {
        for (int steps : new int[] {4, 12, 60}) {
            NoseDrum x = drum("drum steps " + steps + " jam 60 slack 0;");
            Check.numbers(x, 0, 0, steps);
            due("one of all steps", x.fewest(0), 1);
            Check.numbers(x, 0, 0, steps - 1, 1);
            due("just steps together", x.fewest(0), 1);
            due("place", x.place(0, 1), 0);
            Check.numbers(x, 0, 0, steps - 1, 2);
            due("one more", x.fewest(0), 2);
            due("place", x.place(0, 1), 1);
            Check.numbers(x, 0, 0, steps / 2, steps / 2, 1);
            due("two halves and one", x.fewest(0), 2);
            due("place", x.place(0, 2), 1);
            Check.numbers(x, 0, 0, 1, steps - 1, 1, steps - 1, 1, steps - 1, 1, steps - 1);
            due("four pairs", x.fewest(0), 4);
            for (int i = 0; i < 8; i++) {
                due("place of pairs", x.place(0, i), i / 2);
            }
            Check.numbers(x, 0, 0, steps, steps, steps, steps, steps, steps, steps, steps);
            due("eight alone", x.fewest(0), 8);
            due("place of the last", x.place(0, 7), 7);
            Check.numbers(x, 0, 0, steps, steps, steps, steps, steps, steps, steps);
            due("seven alone", x.fewest(0), 7);
        }
        // The least row of those with the fewest: motion 1 must leave track 0 to motion 4.
        NoseDrum y = drum("drum steps 10 jam 60 slack 0;");
        Check.numbers(y, 0, 0, 4, 4, 5, 5, 6, 6);
        due("fewest", y.fewest(0), 3);
        int[] want = {0, 1, 2, 2, 0, 1};
        for (int i = 0; i < want.length; i++) {
            due("place(0, " + i + ")", y.place(0, i), want[i]);
        }
    }

    private static void clashes() {
        NoseDrum x = drum("drum steps 12 jam 60 slack 0;");
        Check.numbers(x, 0, 0, 12);
        due("one alone", x.clash(0), 1);
        Check.numbers(x, 0, 0, 6, 6);
        due("just steps together", x.clash(0), 1);
        Check.numbers(x, 0, 0, 6, 7);
        due("one more", x.clash(0), 2);
        Check.numbers(x, 0, 0, 7, 6, 6, 6);
        due("each with 7, not with each other", x.clash(0), 2);
        Check.numbers(x, 0, 0, 1, 12, 1);
        due("with all", x.clash(0), 2);
        Check.numbers(x, 0, 0, 7, 7, 7, 7, 7, 7, 7, 7);
        due("eight", x.clash(0), 8);
        Check.numbers(x, 0, 0, 7, 7, 7, 7, 7, 7, 7, 5);
        due("seven", x.clash(0), 7);
        Check.numbers(x, 0, 0, 3, 7, 7, 7, 7, 7, 7, 6);
        due("seven, the last of them 6", x.clash(0), 7);
        Check.numbers(x, 0, 0, 6, 3, 7, 7, 6, 10);
        due("6, 7, 7, 10", x.clash(0), 4);
    }

    /** A row's heights have no upper bound but what its acts tell. */
    private static void heights() {
        NoseDrum x = drum("drum steps 60 jam 60 slack 0;");
        Check.motionOf(x, "times 60 { up 60; }", 59);
        due("59 times 60", x.rowAt(59), 3540);
        due("knife", x.cut(0, 0, 59), 3540);
        due("roller 1 beside step 0", x.cut(1, 1, 59), 1);
        due("flat 1 beside step 0", x.cut(2, 1, 59), 0);
        due("hard to step 0", x.hard(60), 0);
        due("just jam", x.hard(0), -1);
        Check.motionOf(x, "up 60;up 60;down 60;down 59;down 2;up 1;", 6);
        int[] want = {0, 60, 120, 60, 1, 0, 1};
        for (int s = 0; s < want.length; s++) {
            due("rowAt(" + s + ")", x.rowAt(s), want[s]);
        }
        due("rowAt(59)", x.rowAt(59), 1);
    }
}
