import java.math.BigInteger;
import java.util.function.Consumer;

/** Promises 2 to 6 and term I at their edges: each number of a text, what is told too often, what stays by a fault. */
public final class TextBoundsTest {
    private static final String D = "drum steps 12 jam 5 slack 2;";
    private static final String T = D + "track;track;";
    private static final String N = "nose on 1 at 0 wide 1 high 1 steep 1;";
    private static final String K = T + "knife on 0 spring 1 lag 0;roller 1 on 0 spring 1 lag 0;";

    public static void main(String[] args) {
        numbersOfDrums();
        numbersThatAreUsed();
        toldAhead();
        oneTooMany();
        numbersOfMotions();
        braces();
        firstFaults();
        places();
        tokens();
        everyByte();
        tapes();
        drumByFault();
        drumAnew();
        motionByFault();
        motionWithoutDrum();
        motionSteps();
        faults();
        Check.finish();
    }

    /** The sign # stands for a number of which the least and the greatest are taken, those beyond them a fault 2. */
    private static void number(String text, int least, int most) {
        for (int n : new int[] {least, most}) {
            NoseDrum x = new NoseDrum();
            String told = text.replace("#", Integer.toString(n));
            Check.tell(x, told);
            Check.due("drum() of " + told, x.drum(), told.replaceAll("[^;]", "").length());
            Check.due("fault(0) of " + told, x.fault(0), 0);
            Check.due("fault(1) of " + told, x.fault(1), -1);
        }
        Check.drumFault(2, text.replace("#", "^" + (most + 1)));
        Check.drumFault(2, text.replace("#", "^2147483648"));
        Check.drumFault(2, text.replace("#", "^4294967296"));
        // By 4 or 8 bytes these would be the least again.
        Check.drumFault(2, text.replace("#", "^" + ((1L << 32) + least)));
        Check.drumFault(2, text.replace("#", "^" + BigInteger.ONE.shiftLeft(64).add(BigInteger.valueOf(least))));
        if (least > 0) {
            Check.drumFault(2, text.replace("#", "^" + (least - 1)));
            Check.drumFault(2, text.replace("#", "^0"));
        }
        Check.drumFault(1, text.replace("#", "^-" + least));
        // Without a lever's follower its first number would stand for that.
        if (!text.contains("lever on #")) {
            Check.drumFault(1, text.replace("# ", "#").replace("#", "^"));
        }
        Check.drumFault(1, text.replace("#", "^x"));
        NoseDrum y = new NoseDrum();
        Check.tell(y, text.replace("#", "000000000000" + least));
        Check.due("digits 0 ahead of " + least + ": " + text, y.drum() >= 1 ? 1 : 0, 1);
    }

    private static void numbersOfDrums() {
        number("drum steps # jam 5 slack 2;", 4, 60);
        number("drum steps 12 jam # slack 2;", 1, 60);
        number("drum steps 12 jam 5 slack #;", 0, 9);
        for (int steps : new int[] {4, 12, 60}) {
            String t = "drum steps " + steps + " jam 5 slack 2;track;track;";
            number(t + "nose on # at 0 wide 1 high 1 steep 1;", 0, 1);
            number(t + "nose on 1 at # wide 1 high 1 steep 1;", 0, steps - 1);
            number(t + "nose on 1 at 0 wide # high 1 steep 1;", 1, steps);
            number(t + "nose on 1 at " + (steps - 1) + " wide # high 1 steep 1;", 1, steps);
        }
        number(T + "nose on 1 at 0 wide 1 high # steep 1;", 1, 60);
        number(T + "nose on 1 at 0 wide 1 high 1 steep #;", 1, 60);
        number(T + "knife on # spring 1 lag 0;", 0, 1);
        number(T + "knife on 1 spring # lag 0;", 1, 60);
        number(T + "knife on 1 spring 1 lag #;", 0, 20);
        for (String sort : new String[] {"roller ", "flat "}) {
            number(T + sort + "# on 0 spring 1 lag 0;", 0, 9);
            number(T + sort + "1 on # spring 1 lag 0;", 0, 1);
            number(T + sort + "1 on 0 spring # lag 0;", 1, 60);
            number(T + sort + "1 on 0 spring 1 lag #;", 0, 20);
        }
        number(K + "lever on # 1 over 1;", 0, 1);
        number(K + "lever on 0 # over 1;", 1, 9);
        number(K + "lever on 0 1 over #;", 1, 9);
        number(K + "lever on 0 1 over 1;lever on # 1 over 1;", 0, 2);
        number(K + "pawl on # at 1 teeth 2;", 0, 1);
        number(K + "pawl on 0 at # teeth 2;", 1, 99);
        number(K + "pawl on 0 at 1 teeth #;", 2, 30);
        number(D + "gear # to 1;", 1, 60);
        number(D + "gear 1 to #;", 1, 60);
    }

    /** The last numbers that are taken are taken as they are, not as less. */
    private static void numbersThatAreUsed() {
        NoseDrum x = Check.drumOf("drum steps 60 jam 60 slack 9;track;nose on 0 at 59 wide 60 high 60 steep 60;", 3);
        int[] want = {0, 59, 60, 60, 60, 0};
        for (int what = 0; what < want.length; what++) {
            Check.due("nose(0, " + what + ")", x.nose(0, what), want[what]);
        }
        Check.due("steps", x.count(0), 60);
        Check.due("jam", x.count(7), 60);
        Check.due("slack", x.count(8), 9);
        x = Check.drumOf("drum steps 4 jam 1 slack 0;track;nose on 0 at 0 wide 1 high 1 steep 1;", 3);
        int[] least = {0, 0, 1, 1, 1, 0};
        for (int what = 0; what < least.length; what++) {
            Check.due("least nose(0, " + what + ")", x.nose(0, what), least[what]);
        }
        Check.due("least steps", x.count(0), 4);
        Check.due("least jam", x.count(7), 1);
        Check.due("least slack", x.count(8), 0);

        x = Check.drumOf("drum steps 60 jam 60 slack 9;track;nose on 0 at 30 wide 1 high 60 steep 60;"
            + "flat 9 on 0 spring 60 lag 20;flat 0 on 0 spring 1 lag 0;lever on 1 9 over 1;lever on 1 1 over 9;"
            + "pawl on 2 at 99 teeth 30;pawl on 2 at 99 teeth 2;", 9);
        Check.due("flat 9, nine ahead", x.lift(0, 21), 60);
        Check.due("flat 9, ten ahead", x.lift(0, 20), 0);
        Check.due("flat 9, nine behind", x.lift(0, 39), 60);
        Check.due("flat 9, ten behind", x.lift(0, 40), 0);
        Check.due("flat 0, there", x.lift(1, 30), 60);
        Check.due("flat 0, beside", x.lift(1, 29), 0);
        Check.due("lever 9 over 1", x.lift(2, 30), 540);
        Check.due("lever 1 over 9", x.lift(3, 30), 6);
        Check.due("spring 60", x.steady(0, 40), 0);
        Check.due("spring 1", x.steady(1, 31), 59);
        Check.due("turn", x.turn(30), 30);
        Check.due("lag 0", x.follower(1, 1), 60);
        x.turn(10);
        Check.due("lag 20, as at angle 20", x.follower(0, 1), 0);
        x.turn(1);
        Check.due("lag 20, as at angle 21", x.follower(0, 1), 60);
        Check.due("at 99", x.pawl(0), 1);
        x.turn(589);
        Check.due("at 99, at angles 30, 90 .. 630", x.pawl(0), 11);
        Check.due("of two teeth", x.pawl(1), 1);
        NoseDrum fast = Check.drumOf("drum steps 7 jam 60 slack 0;gear 60 to 1;", 2);
        fast.turn(1);
        Check.due("gear 60 to 1", fast.stands(4), 4);
        NoseDrum slow = Check.drumOf("drum steps 7 jam 60 slack 0;gear 1 to 60;", 2);
        slow.turn(59);
        Check.due("gear 1 to 60 at 59", slow.stands(4), 0);
        slow.turn(1);
        Check.due("gear 1 to 60 at 60", slow.stands(4), 1);

        NoseDrum y = Check.drumOf("drum steps 4 jam 60 slack 0;track;nose on 0 at 1 wide 1 high 11 steep 60;knife on 0 spring 60 lag 0;"
            + "lever on 0 9 over 1;pawl on 1 at 99 teeth 30;pawl on 1 at 99 teeth 2;pawl on 0 at 1 teeth 3;", 8);
        for (int i = 1; i <= 31; i++) {
            y.turn(4);
            Check.due("teeth 30, turn " + i, y.pawl(0), i % 30);
            Check.due("teeth 2, turn " + i, y.pawl(1), i % 2);
            Check.due("at 1, turn " + i, y.pawl(2), i % 3);
        }
        y.wear(0, 1);
        Check.due("a lever of 90 is below at 99", y.clicks(0), 0);
    }

    /** Tracks and followers are to be told ahead; numbers follow as they stand. */
    private static void toldAhead() {
        Check.drumFault(2, D + "nose on ^0 at 0 wide 1 high 1 steep 1;track;");
        Check.drumFault(2, D + "knife on ^0 spring 1 lag 0;track;");
        Check.drumFault(2, D + "roller 1 on ^0 spring 1 lag 0;track;");
        Check.drumFault(2, D + "flat 1 on ^0 spring 1 lag 0;track;");
        Check.drumFault(2, T + "lever on ^0 1 over 1;knife on 0 spring 1 lag 0;");
        Check.drumFault(2, T + "pawl on ^0 at 1 teeth 2;knife on 0 spring 1 lag 0;");
        // A lever is not told ahead of itself.
        Check.drumFault(2, K + "lever on ^2 1 over 1;");
        Check.drumFault(2, T + "nose on ^2 at 0 wide 1 high 1 steep 1;track;");
        NoseDrum x = Check.drumOf(D + "track;nose on 0 at 0 wide 1 high 1 steep 1;knife on 0 spring 1 lag 0;track;nose on 1 at 3 wide 1 high 7 steep 9;"
            + "pawl on 0 at 1 teeth 2;flat 0 on 1 spring 1 lag 0;gear 2 to 1;lever on 1 1 over 1;pawl on 2 at 7 teeth 2;", 11);
        Check.due("a nose of the second track", x.nose(1, 0), 1);
        Check.due("a flat behind a pawl", x.follower(1, 3), 2);
        Check.due("the lever over it", x.lift(2, 3), 7);
        Check.due("the pawl of that", x.clicks(1), 1);
        Check.due("tracks", x.count(1), 2);
        Check.due("followers", x.count(3), 3);
    }

    /** What is one too many is a fault 3 at its word, whatever stands behind it; as many as may be are none. */
    private static void oneTooMany() {
        String six = D + "track;".repeat(6);
        Check.due("six tracks", Check.drumOf(six, 7).count(1), 6);
        Check.drumFault(3, six + "^track;");
        Check.drumFault(3, six + " \n^track");
        Check.drumFault(3, six + "^track 5;");
        String noses = T + N.repeat(24);
        Check.due("24 noses", Check.drumOf(noses, 27).count(2), 24);
        Check.drumFault(3, noses + "^" + N);
        Check.drumFault(3, noses + "^nose");
        Check.drumFault(3, noses + "^nose #");
        String[] sorts = {"knife on 0 spring 1 lag 0;", "roller 1 on 0 spring 1 lag 0;", "flat 1 on 0 spring 1 lag 0;", "lever on 0 1 over 1;"};
        for (String sort : sorts) {
            String ten = T + sorts[0] + sort.repeat(9);
            Check.due("ten followers: " + sort, Check.drumOf(ten, 13).count(3), 10);
            for (String more : sorts) {
                Check.drumFault(3, ten + "^" + more);
            }
            Check.drumFault(3, ten + "pawl on 9 at 1 teeth 2;gear 1 to 1;^" + sort.split(" ")[0]);
        }
        String pawls = K + "pawl on 1 at 1 teeth 2;".repeat(4);
        Check.due("four pawls", Check.drumOf(pawls, 9).count(4), 4);
        Check.drumFault(3, pawls + "^pawl on 1 at 1 teeth 2;");
        Check.drumFault(3, pawls + "^pawl");
        // All that is full, and one of the rest.
        String full = six + "knife on 5 spring 1 lag 0;".repeat(10) + "pawl on 9 at 1 teeth 2;".repeat(4);
        Check.drumOf(full + N + "gear 60 to 60;", 23);
        // gear is told once: a second one is a fault 2 at it, a third one would be, too.
        Check.drumFault(2, full + "gear 60 to 60;^gear 60 to 60;gear 1 to 1;");
        Check.drumFault(2, D + "gear 1 to 1;^gear");
        Check.drumFault(2, D + "gear 1 to 1;track;^gear 0 to 0;");
    }

    private static void act(NoseDrum x, String text, int least, int most) {
        for (int n : new int[] {least, most}) {
            String told = text.replace("#", Integer.toString(n));
            Check.tell(x, told);
            Check.due("motion() of " + told, x.motion() >= 0 ? 1 : 0, 1);
            Check.due("fault(0) of " + told, x.fault(0), 0);
            Check.due("fault(1) of " + told, x.fault(1), -1);
        }
        Check.motionFault(x, 2, text.replace("#", "^" + (most + 1)));
        Check.motionFault(x, 2, text.replace("#", "^" + ((1L << 32) + least)));
        Check.motionFault(x, 2, text.replace("#", "^" + BigInteger.ONE.shiftLeft(64).add(BigInteger.valueOf(least))));
        if (least > 0) {
            Check.motionFault(x, 2, text.replace("#", "^" + (least - 1)));
        }
        Check.motionFault(x, 1, text.replace("#", "^-" + least));
        Check.motionFault(x, 1, text.replace("# ", "#").replace("#", "^"));
        Check.motionFault(x, 1, text.replace("#", "^{"));
    }

    private static void numbersOfMotions() {
        NoseDrum x = Check.drumOf(K, 5);
        act(x, "up #;", 0, 60);
        act(x, "down #;", 0, 60);
        act(x, "hold #;", 1, 60);
        act(x, "times # {}", 2, 60);
        act(x, "if # above 1 {}", 0, 1);
        act(x, "if 0 above # {}", 0, 999);
        act(x, "times 2 { if 1 above 0 { up #; } }", 0, 60);
        NoseDrum y = Check.drumOf(T, 3);
        Check.motionFault(y, 2, "if ^0 above 1 {}");
        NoseDrum z = Check.drumOf(T + "knife on 0 spring 1 lag 0;".repeat(10), 13);
        act(z, "if # above 1 {}", 0, 9);
        // What is taken is done so often, by so much.
        NoseDrum long60 = Check.drumOf("drum steps 60 jam 5 slack 2;track;nose on 0 at 0 wide 60 high 60 steep 1;knife on 0 spring 1 lag 0;"
            + "lever on 0 9 over 1;lever on 1 9 over 1;lever on 2 2 over 9;", 7);
        Check.motionOf(long60, "hold 58;", 58);
        Check.motionOf(long60, "times 58 { up 1; }", 58);
        Check.due("58 times", long60.rowAt(59), 58);
        Check.motionOf(long60, "up 60; down 59; down 2; up 0;", 4);
        Check.due("up 60", long60.rowAt(1), 60);
        Check.due("down 59", long60.rowAt(2), 1);
        Check.due("down 2: 0 at least", long60.rowAt(3), 0);
        Check.motionOf(long60, "times 2 { hold 29; }", 58);
        // Lifts are 60, 540, 4860, 1080: more than 999, or just as much as is told.
        Check.motionOf(long60, "if 3 above 999 { up 1; } if 0 above 60 { up 1; } if 0 above 59 { up 1; } if 1 above 540 { up 9; }", 2);
        NoseDrum low = Check.drumOf(T + "knife on 0 spring 1 lag 0;", 4);
        Check.motionOf(low, "if 0 above 0 { up 1; }", 0);
    }

    private static void braces() {
        NoseDrum x = Check.drumOf(K, 5);
        String[] heads = {"times 2", "if 0 above 0"};
        for (String head : heads) {
            String five = (head + " {").repeat(5);
            Check.motionOf(x, five + "}".repeat(5), 0);
            Check.motionFault(x, 3, five + head + " ^{" + "}".repeat(6));
            Check.motionFault(x, 3, five + head + "^{");
            // Five are open still, if as many were shut as were opened beside.
            Check.motionOf(x, five + "} " + head + " {" + "}".repeat(5), 0);
            Check.motionFault(x, 3, five + "} " + head + " {" + head + "^{");
            Check.motionFault(x, 1, five + "^" + "{");
            Check.motionFault(x, 1, five + "}".repeat(5) + "^}");
            Check.motionFault(x, 1, five + "}".repeat(4) + "^");
        }
        // Six beside each other are not within each other.
        Check.motionOf(x, "times 2 {} ".repeat(6), 0);
        Check.motionFault(x, 1, "^{");
        Check.motionFault(x, 1, "^}");
        Check.motionFault(x, 1, "up 1; ^}");
        Check.motionFault(x, 1, "up 1 ^}");
        Check.motionFault(x, 1, "times 2 ^");
        Check.motionFault(x, 1, "times 2 { ^");
    }

    /** The first fault by its place is told, though worse ones stand behind it. */
    private static void firstFaults() {
        Check.drumFault(2, "drum steps ^61 jam 0 slack 10; drum #");
        Check.drumFault(1, "drum steps 60 ^# jam 0 slack 10;");
        Check.drumFault(1, D + "track ^track; track; track; track; track; track; gear 1 to 1; gear 1 to 1;");
        Check.drumFault(2, T + "nose on ^2 at 99 wide # high;");
        Check.drumFault(1, T + "nose on 1 ^high 61;");
        Check.drumFault(3, D + "track;".repeat(6) + "^track; nose on 7 # gear");
        Check.drumFault(1, D + "track;".repeat(5) + "^# track; track; track;");
        // No drum ahead: the first word is the fault, not the number behind it or the seventh track.
        Check.drumFault(1, "^track;" + "track;".repeat(6));
        Check.drumFault(1, "^gear 0 to 0;");
        Check.drumFault(1, "^nose on 0 at 0 wide 1 high 1 steep 1;");
        Check.drumFault(1, "^7;");
        Check.drumFault(1, D + "track;^drum steps 12 jam 5 slack 2;");
        Check.drumFault(1, D + "^drum steps 99 jam 5 slack 2;");
        Check.drumFault(1, D + "^drum;");
        // Of one place the least: what can't stand there is a fault 1, though it were told already or too often.
        Check.drumFault(1, D + "gear 1 to 1;track ^gear 1 to 1;");
        Check.drumFault(1, T + "gear 1 to 1;nose ^gear 1 to 1;");
        Check.drumFault(1, D + "track;".repeat(6) + "gear 1 ^track;");
        Check.drumFault(1, T + N.repeat(24) + "gear ^nose;");
        Check.drumFault(1, K + "knife on 0 spring 1 lag 0;".repeat(8) + "gear 1 to ^knife;");
        Check.drumFault(1, K + "pawl on 0 at 1 teeth 2;".repeat(4) + "track ^pawl;");
        Check.drumFault(1, "drum steps 12 jam 5 slack 2 ^61;");
        Check.drumFault(1, "^61 drum;");
        NoseDrum x = Check.drumOf(K, 5);
        Check.motionFault(x, 1, "^61;");
        Check.motionFault(x, 1, "times 2{".repeat(5) + "up 1 ^{");
        Check.motionFault(x, 1, "times 2{".repeat(5) + "times ^{");
        Check.motionFault(x, 2, "up ^61; down 61; #");
        Check.motionFault(x, 1, "up ^# 61;");
        Check.motionFault(x, 2, "times 2{times 2{times 2{times 2{times 2{times ^1{");
        Check.motionFault(x, 2, "if ^2 above 1000 {");
        Check.motionFault(x, 1, "if 1 ^over 1000 {");
    }

    /** A token's place is that of its first byte, the end's is how many bytes there are. */
    private static void places() {
        Check.drumFault(1, "^x");
        Check.drumFault(1, " ^x");
        Check.drumFault(1, "\n \n^xyz 12");
        Check.drumFault(2, "drum steps   ^0061 jam 5 slack 2;");
        Check.drumFault(1, "drum^");
        Check.drumFault(1, "drum ^");
        Check.drumFault(1, "drum \n ^");
        Check.drumFault(1, "drum steps 12 jam 5 slack 2\n^");
        Check.drumFault(1, D + "\ntrack\n^");
        NoseDrum x = Check.drumOf(K, 5);
        Check.motionFault(x, 1, "^x");
        Check.motionFault(x, 1, " \nup1^");
        x = Check.drumOf(K, 5);
        Check.motionFault(x, 1, "up^");
        Check.motionFault(x, 1, "up 1^");
        Check.motionFault(x, 1, "times 2 {\n^");
        // The last byte that a tape has room for, and the place behind it.
        String most = D + " ".repeat(1600 - D.length());
        Check.drumOf(most, 1);
        Check.drumFault(1, most.substring(0, 1599) + "^;");
        Check.drumFault(1, most.substring(0, 1599) + "^a");
        Check.drumFault(1, most.substring(0, 1595) + "track^");
        Check.drumFault(2, most.substring(0, 1595) + "gear^0");
        Check.drumFault(1, "drum steps 12 jam 5 slack 2" + " ".repeat(1573) + "^");
    }

    /** Words, numbers and signs are as long as they can be; blanks are 32 and 10 alone. */
    private static void tokens() {
        Check.drumOf("drum\nsteps\n12\njam\n5\nslack\n2\n;\n", 1);
        Check.drumOf("\n \ndrum  steps 12jam 5slack 2;", 1);
        Check.drumOf("drum steps12jam5slack2;track;nose on0at0wide1high1steep1;", 3);
        Check.drumFault(1, "drum ^stepsjam 12 jam 5 slack 2;");
        Check.drumFault(2, "drum steps ^1 2 jam 5 slack 2;");
        Check.drumFault(1, "drum steps 12^\r");
        Check.drumFault(1, D + "^Track;");
        Check.drumFault(1, D + "track^,");
        Check.drumFault(1, "drum steps 12 jam 5 slack 2^.");
        Check.drumFault(1, "drum steps 12 jam 5 ^slac");
        Check.drumFault(1, "drum steps 12 jam 5 ^slacks 2;");
        Check.drumFault(1, "drum ^step s 12 jam 5 slack 2;");
        NoseDrum x = Check.drumOf(K, 5);
        Check.motionOf(x, "up1;down1;hold1;times2{}if0above0{}", 3);
        Check.motionOf(x, "\n", 0);
        Check.motionFault(x, 1, "up 1^\t;");
        Check.motionFault(x, 1, "^Up 1;");
        Check.motionFault(x, 1, "up 1;^,");
        Check.motionFault(x, 1, "up 1^:");
        Check.motionFault(x, 1, "up 1^<");
        Check.motionFault(x, 1, "times 2 ^|");
        Check.motionFault(x, 1, "times 2 ^z");
        Check.motionFault(x, 1, "times 2 { ^~");
    }

    /** Behind a whole drum every byte but the blanks is a fault 1 at its place. */
    private static void everyByte() {
        for (int c = 0; c < 256; c++) {
            NoseDrum x = new NoseDrum();
            Check.tell(x, D);
            x.feed(c << 24 | 0x202020, 0x20202020, 0x20202020, 0x20202020, 0x20202020);
            x.end(D.length() + 1);
            boolean blank = c == 32 || c == 10;
            Check.due("drum() with byte " + c, x.drum(), blank ? 1 : -4);
            Check.due("fault(0) with byte " + c, x.fault(0), blank ? 0 : 1);
            Check.due("fault(1) with byte " + c, x.fault(1), blank ? -1 : D.length());
            NoseDrum y = new NoseDrum();
            Check.tell(y, D);
            y.drum();
            y.feed(0x75702031, c << 24 | 0x3b2020, 0x20202020, 0x20202020, 0x20202020);
            y.end(6);
            // "up 1", the byte, ";": a digit makes it up 10 .. 19, a ; leaves one too many.
            boolean taken = blank || c >= '0' && c <= '9';
            Check.due("motion() with byte " + c, y.motion(), taken ? 1 : -4);
            Check.due("fault(0) of motion() with byte " + c, y.fault(0), taken ? 0 : 1);
            Check.due("fault(1) of motion() with byte " + c, y.fault(1), taken ? -1 : c == ';' ? 5 : 4);
        }
    }

    /** A tape has at most 1,600 bytes; what would be more does not come, what it has not can't be cut off. */
    private static void tapes() {
        for (int length : new int[] {1581, 1590, 1600}) {
            String text = D + " ".repeat(length - D.length());
            Twin.refused("feed behind " + length, x -> Check.tell(x, text), x -> x.feed(0x747261, 0x636b3b20, 0, 0, 0), -1);
            Twin.refused("end behind " + length, x -> Check.tell(x, text), x -> x.end(length + 1), -1);
        }
        for (int length : new int[] {0, 1, 19, 20, 1579, 1580}) {
            NoseDrum x = new NoseDrum();
            Check.tell(x, " ".repeat(length));
            Check.due("feed behind " + length, x.feed(0, 0, 0, 0, 0), length + 20);
            Check.due("count(6)", x.count(6), length + 20);
        }
        for (int length : new int[] {0, 1, 28}) {
            Consumer<NoseDrum> told = x -> Check.tell(x, D.substring(0, length));
            Twin.refused("end(-1) of " + length, told, x -> x.end(-1), -1);
            Twin.refused("end below all", told, x -> x.end(Integer.MIN_VALUE), -1);
            Twin.refused("end above all", told, x -> x.end(Integer.MAX_VALUE), -1);
            Twin.refused("end of one more", told, x -> x.end(length + 1), -1);
            NoseDrum x = new NoseDrum();
            told.accept(x);
            Check.due("end of all", x.end(length), length);
            Check.due("end(0)", x.end(0), 0);
            Check.due("count(6)", x.count(6), 0);
        }
        // What is fed behind a cut stands where it was cut.
        NoseDrum x = new NoseDrum();
        Check.tell(x, D + "gear 1 to 1;");
        Check.due("end", x.end(D.length()), D.length());
        Check.tell(x, "track;");
        Check.due("drum()", x.drum(), 2);
        Check.due("tracks", x.count(1), 1);
        Check.due("the tape is empty then", x.count(6), 0);
        Check.due("end(1) then", x.end(1), -1);
    }

    /** A fault of drum() leaves all but the fault: the drum, its motion, where it stands, the tape. */
    private static void drumByFault() {
        String[] faulty = {"x", "drum steps 3 jam 5 slack 2;", D + "track;".repeat(7), D + "track", Twin.WHOLE + "#", "up 1;"};
        for (String text : faulty) {
            Consumer<NoseDrum> faulted = x -> {
                Twin.stirred(x);
                x.keep(0);
                Check.tell(x, text);
                Check.due("drum() of " + text, x.drum(), -4);
                Check.due("a fault", x.fault(0) > 0 && x.fault(1) >= 0 ? 1 : 0, 1);
            };
            // The other one goes back to what was ahead of the fault, and is told the tape anew.
            Twin.alike("behind drum() of " + text, faulted, faulted.andThen(x -> {
                x.back(0);
                x.end(0);
                Check.tell(x, text);
            }));
        }
        // Without a drum there is none behind a fault either.
        NoseDrum y = new NoseDrum();
        Check.tell(y, D + "track");
        Check.due("drum()", y.drum(), -4);
        Check.due("no drum", y.turn(0), -2);
        Check.due("steps", y.count(0), 0);
        Check.due("tracks", y.count(1), 0);
        Check.due("lines", y.count(5), 0);
        Check.due("jam", y.count(7), 0);
        Check.due("slack", y.count(8), 0);
    }

    /** A drum in place of another one begins as if it were the first: nothing of the old one is left. */
    private static void drumAnew() {
        String[] texts = {D, Twin.WHOLE, D + "track;nose on 0 at 1 wide 1 high 2 steep 1;knife on 0 spring 1 lag 20;pawl on 0 at 1 teeth 3;", ""};
        for (String text : texts) {
            Consumer<NoseDrum> anew = y -> {
                Twin.stirred(y);
                Check.tell(y, Twin.WHOLE);
                y.drum();
                y.wear(0, 3);
                y.wear(1, 3);
                y.breaks(0, true);
                y.breaks(1, true);
                y.turn(5);
                y.turn(-1);
                Check.tell(y, text);
                Check.due("drum() anew of " + text, y.drum(), text.replaceAll("[^;]", "").length());
                Check.due("no motion then", y.count(9), 0);
                Check.due("the tape is empty then", y.count(6), 0);
            };
            Twin.alike("a drum anew of " + text, anew, y -> {
                Twin.stirred(y);
                Check.tell(y, text);
                y.drum();
            });
        }
        // A jam, its follower, work, slack and pawls are of the drum that was.
        NoseDrum x = Check.drumOf("drum steps 6 jam 2 slack 3;track;nose on 0 at 2 wide 1 high 5 steep 9;nose on 0 at 1 wide 1 high 2 steep 9;"
            + "knife on 0 spring 9 lag 0;pawl on 0 at 1 teeth 9;gear 5 to 3;", 7);
        for (int i = 0; i < 3; i++) {
            Check.due("turn till it jams", x.turn(4), 1);
            Check.due("turn again", x.turn(4), 0);
            Check.due("turn back", x.turn(-2), 2);
            Check.due("angle", x.stands(0), 1);
            Check.due("taken", x.stands(1), 3);
            Check.due("work", x.stands(2), 2);
            Check.due("slack left", x.stands(3), 1);
            Check.due("second", x.stands(4), 1);
            Check.due("jammed", x.stands(5), 2);
            Check.due("jammed by", x.follower(0, 4), 1);
            Check.due("pawl", x.pawl(0), 1);
            x.wear(0, 1);
            x.breaks(1, true);
            Check.tell(x, "drum steps 6 jam 2 slack 3;track;nose on 0 at 2 wide 1 high 5 steep 9;nose on 0 at 1 wide 1 high 2 steep 9;"
                + "knife on 0 spring 9 lag 0;pawl on 0 at 1 teeth 9;gear 5 to 3;");
            Check.due("drum()", x.drum(), 7);
            for (int what = 0; what < 6; what++) {
                Check.due("stands(" + what + ") at first", x.stands(what), 0);
            }
            Check.due("jammed by none", x.follower(0, 4), 0);
            Check.due("pawl at first", x.pawl(0), 0);
            Check.due("worn at first", x.nose(0, 5), 0);
            Check.due("broken at first", x.count(10), 0);
        }
        // gear 1 to 1 without, also behind a drum that had another.
        Check.tell(x, D);
        x.drum();
        x.turn(7);
        Check.due("no gear behind one", x.stands(4), 7);
        Check.tell(x, D + "gear 2 to 1;");
        Check.due("gear is not told already", x.drum(), 2);
    }

    /** A fault of motion() leaves the tape and the motion that was. */
    private static void motionByFault() {
        String[] faulty = {"x", "up 61;", "times 2{".repeat(6), "up 1", "up 1;down 1;#", "times 2 { up 9;"};
        for (String text : faulty) {
            NoseDrum x = new NoseDrum();
            Twin.stirred(x);
            Check.tell(x, text);
            Check.due("motion() of " + text, x.motion(), -4);
            Check.due("the tape stays", x.count(6), text.length());
            Check.due("a motion stays", x.count(9), 1);
            int[] row = {0, 3, 3, 3, 2, 2, 2, 2, 2, 2, 2, 2};
            for (int s = 0; s < row.length; s++) {
                Check.due("rowAt(" + s + ") stays", x.rowAt(s), row[s]);
            }
            Check.due("angle stays", x.stands(0), 7 - 2);
            NoseDrum y = Check.drumOf(Twin.WHOLE, 10);
            Check.tell(y, text);
            Check.due("motion() of " + text, y.motion(), -4);
            Check.due("none is there behind it", y.count(9), 0);
            Check.due("rowAt", y.rowAt(0), -6);
        }
        // The rest of an act that was missing comes behind what stayed.
        NoseDrum z = Check.drumOf(D, 1);
        Check.tell(z, "up 1");
        Check.due("motion() without ;", z.motion(), -4);
        Check.tell(z, "2;");
        Check.due("motion() with it", z.motion(), 1);
        Check.due("up 12", z.rowAt(1), 12);
        Check.due("the tape is empty then", z.count(6), 0);
    }

    /** Without a drum the tape is empty then, and the fault is as it was. */
    private static void motionWithoutDrum() {
        for (String text : new String[] {"", "up 1;", "x", D, "#"}) {
            NoseDrum x = new NoseDrum();
            Check.tell(x, text);
            Check.due("motion() of " + text, x.motion(), -2);
            Check.due("the tape is empty then", x.count(6), 0);
            Check.due("no motion", x.count(9), 0);
            Check.due("fault(0)", x.fault(0), 0);
            Check.due("fault(1)", x.fault(1), -1);
            Check.tell(x, "drum ^");
            Check.due("drum()", x.drum(), -4);
            Check.due("motion()", x.motion(), -2);
            Check.due("the tape is empty then", x.count(6), 0);
            Check.due("fault(0) of drum()", x.fault(0), 1);
            Check.due("fault(1) of drum()", x.fault(1), 5);
            Check.due("an empty drum()", x.drum(), 0);
            Check.due("motion() of an empty one", x.motion(), -2);
            Check.due("fault(0) of that", x.fault(0), 0);
            Check.due("fault(1) of that", x.fault(1), -1);
        }
    }

    /** A motion comes to 0 .. steps less 1. */
    private static void motionSteps() {
        for (int steps : new int[] {4, 12, 60}) {
            NoseDrum x = Check.drumOf("drum steps " + steps + " jam 5 slack 2;", 1);
            Check.motionOf(x, "", 0);
            Check.motionOf(x, " ", 0);
            Check.motionOf(x, "hold 1;", 1);
            Check.motionOf(x, "up 1;".repeat(steps - 2), steps - 2);
            Check.due("the last step is as the one that is come to", x.rowAt(steps - 1), steps - 2);
            Check.motionOf(x, "up 1;".repeat(steps - 1), steps - 1);
            Check.due("the last step", x.rowAt(steps - 1), steps - 1);
            Check.motionOf(x, "up 1;".repeat(steps), steps - 1);
            Check.due("the last step", x.rowAt(steps - 1), steps - 1);
            Check.due("step 0 is not looked at again", x.rowAt(0), 0);
            Check.motionOf(x, "hold 60;", steps - 1);
            Check.motionOf(x, "hold " + (steps - 1) + ";times 2 { up 1; } up 1;", steps - 1);
            Check.due("behind the last step nothing is looked at", x.rowAt(steps - 1), 0);
            Check.motionOf(x, "up 2;hold 60;down 1;", steps - 1);
            Check.due("the last step", x.rowAt(steps - 1), 2);
            Check.motionOf(x, "times 60 { times 60 { times 60 { times 60 { times 60 { up 1; } } } } }", steps - 1);
            Check.due("the last step", x.rowAt(steps - 1), steps - 1);
        }
    }

    private static void faults() {
        NoseDrum x = new NoseDrum();
        Check.due("fault(0) ahead of any", x.fault(0), 0);
        Check.due("fault(1) ahead of any", x.fault(1), -1);
        Check.tell(x, "drum steps 12 jam 61 slack 2;");
        x.drum();
        Check.due("fault(0)", x.fault(0), 2);
        Check.due("fault(1)", x.fault(1), 18);
        for (int what : new int[] {-1, 2, 3, Integer.MIN_VALUE, Integer.MAX_VALUE}) {
            Check.due("fault(" + what + ")", x.fault(what), -1);
        }
        x.end(0);
        Check.tell(x, K);
        x.drum();
        Check.due("fault(0) without", x.fault(0), 0);
        Check.due("fault(1) without", x.fault(1), -1);
        Check.tell(x, "#");
        x.motion();
        Check.due("fault(0) of motion()", x.fault(0), 1);
        Check.due("fault(1) of motion() at place 0", x.fault(1), 0);
        x.end(0);
        x.motion();
        Check.due("fault(0) of an empty motion()", x.fault(0), 0);
        Check.due("fault(1) of an empty motion()", x.fault(1), -1);
    }
}
