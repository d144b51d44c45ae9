/** Promises 1 to 6: a new object, the tape, the texts of drums and motions and their faults. */
public final class TextTest {
    private static final String D = "drum steps 12 jam 5 slack 2;";

    public static void main(String[] args) {
        newObject();
        tape();
        drums();
        drumFaults1();
        drumFaults2();
        drumFaults3();
        cutOff();
        motions();
        mostActs();
        motionFaults();
        Check.finish();
    }

    private static void newObject() {
        NoseDrum x = new NoseDrum();
        for (int what = 0; what <= 11; what++) {
            Check.due("new count(" + what + ")", x.count(what), 0);
        }
        for (int what = 0; what <= 5; what++) {
            Check.due("new stands(" + what + ")", x.stands(what), 0);
        }
        Check.due("new fault(0)", x.fault(0), 0);
        Check.due("new fault(1)", x.fault(1), -1);
        Check.due("new fault(2)", x.fault(2), -1);
        Check.due("new fault(-1)", x.fault(-1), -1);
        Check.due("new turn(0)", x.turn(0), -2);
        Check.due("new work()", x.work(), -2);
        Check.due("new same()", x.same(), -2);
        Check.due("new spare()", x.spare(), -2);
        Check.due("new nearest()", x.nearest(), -2);
        Check.due("new years", x.years(1, 1, 1), -2);
        Check.due("new profile", x.profile(0, 0), -2);
        Check.due("new rowAt", x.rowAt(0), -2);
        Check.due("new widest", x.widest(1), -2);
        Check.due("new hard", x.hard(0), -2);
        Check.due("NONE", NoseDrum.NONE, -1);
    }

    private static void tape() {
        NoseDrum x = new NoseDrum();
        for (int i = 1; i <= 80; i++) {
            Check.due("feed " + i, x.feed(0x20202020, 0x0a0a0a0a, 0x20202020, 0x20202020, 0x20202020), 20 * i);
        }
        Check.due("feed of a full tape", x.feed(0, 0, 0, 0, 0), -1);
        Check.due("count(6) of a full tape", x.count(6), 1600);
        Check.due("end(1601)", x.end(1601), -1);
        Check.due("end(-1)", x.end(-1), -1);
        Check.due("end(min)", x.end(Integer.MIN_VALUE), -1);
        Check.due("end(max)", x.end(Integer.MAX_VALUE), -1);
        Check.due("end(1600)", x.end(1600), 1600);
        Check.due("end(1581)", x.end(1581), 1581);
        Check.due("feed above 1580", x.feed(0, 0, 0, 0, 0), -1);
        Check.due("count(6)", x.count(6), 1581);
        Check.due("end(1580)", x.end(1580), 1580);
        Check.due("feed up to 1600", x.feed(0, 0, 0, 0, 0), 1600);
        Check.due("drum() of blanks and a strange byte", x.drum(), -4);
        Check.due("fault(1)", x.fault(1), 1580);
        Check.due("end(1580) again", x.end(1580), 1580);
        Check.due("drum() of blanks", x.drum(), 0);
        Check.due("count(6)", x.count(6), 0);
        Check.due("end(0)", x.end(0), 0);
        Check.due("end(1)", x.end(1), -1);

        // The highest byte comes first.
        Check.due("feed of a drum", x.feed(0x6472756d, 0x20737465, 0x70732034, 0x206a616d, 0x20312073), 20);
        Check.due("feed of its rest", x.feed(0x6c61636b, 0x20302020, 0x20203b20, 0xff0080c8, 0x7b7d3b00), 40);
        Check.due("end(31)", x.end(31), 31);
        Check.due("drum()", x.drum(), 1);
        Check.due("steps", x.count(0), 4);
        Check.due("jam", x.count(7), 1);
        Check.due("slack", x.count(8), 0);
    }

    private static void drums() {
        NoseDrum x = new NoseDrum();
        Check.due("an empty drum()", x.drum(), 0);
        Check.due("turn", x.turn(1), -2);
        Check.tell(x, D + "track;track ;\nnose on 1 at 11 wide 12 high 60 steep 60;knife on 0 spring 60 lag 20;"
            + "roller 9 on 1 spring 1 lag 0; flat 0on0spring2lag0003;lever on 2 9 over 9; lever on 3 1 over 1\n;"
            + "pawl on 4 at 99 teeth 30;gear 60 to 1;   ");
        Check.due("drum()", x.drum(), 11);
        Check.due("fault(0)", x.fault(0), 0);
        Check.due("fault(1)", x.fault(1), -1);
        Check.due("steps", x.count(0), 12);
        Check.due("tracks", x.count(1), 2);
        Check.due("noses", x.count(2), 1);
        Check.due("followers", x.count(3), 5);
        Check.due("pawls", x.count(4), 1);
        Check.due("lines", x.count(5), 11);
        Check.due("tape", x.count(6), 0);
        Check.due("jam", x.count(7), 5);
        Check.due("slack", x.count(8), 2);
        Check.due("sort 0", x.follower(0, 3), 0);
        Check.due("sort 1", x.follower(1, 3), 1);
        Check.due("sort 2", x.follower(2, 3), 2);
        Check.due("sort 3", x.follower(3, 3), 3);
        Check.due("sort 4", x.follower(4, 3), 3);

        // A fault leaves all as it is; the tape too.
        Check.motionOf(x, "up 1;", 1);
        x.turn(3);
        Check.tell(x, "drum steps 12 jam 5 slack 2");
        Check.due("drum() without ;", x.drum(), -4);
        Check.due("fault(0)", x.fault(0), 1);
        Check.due("fault(1)", x.fault(1), 27);
        Check.due("lines stay", x.count(5), 11);
        Check.due("motion stays", x.count(9), 1);
        Check.due("angle stays", x.stands(0), 3);
        Check.due("tape stays", x.count(6), 27);
        Check.tell(x, ";");
        Check.due("drum() with it", x.drum(), 1);
        Check.due("no motion then", x.count(9), 0);
        Check.due("angle at first", x.stands(0), 0);
        Check.due("no noses then", x.count(2), 0);
        Check.due("fault(0)", x.fault(0), 0);
        Check.due("fault(1)", x.fault(1), -1);
        Check.due("an empty drum() in place of it", x.drum(), 0);
        Check.due("steps then", x.count(0), 0);
        Check.due("lines then", x.count(5), 0);
        Check.due("turn then", x.turn(0), -2);

        Check.drumOf("drum steps 60 jam 60 slack 9;", 1);
        Check.drumOf("drum steps 4 jam 1 slack 0;track;nose on 0 at 0 wide 1 high 1 steep 1;knife on 0 spring 1 lag 0;"
            + "pawl on 0 at 1 teeth 2;gear 1 to 60;", 6);
        StringBuilder most = new StringBuilder(D);
        for (int i = 0; i < 6; i++) {
            most.append("track;");
        }
        for (int i = 0; i < 24; i++) {
            most.append("nose on 5 at 0 wide 1 high 1 steep 1;");
        }
        for (int i = 0; i < 10; i++) {
            most.append("knife on 5 spring 1 lag 0;");
        }
        for (int i = 0; i < 4; i++) {
            most.append("pawl on 9 at 1 teeth 2;");
        }
        NoseDrum y = Check.drumOf(most + "gear 1 to 1;", 46);
        Check.due("noses", y.count(2), 24);
        Check.due("followers", y.count(3), 10);
        Check.due("pawls", y.count(4), 4);
    }

    private static void drumFaults1() {
        Check.drumFault(1, "^track;");
        Check.drumFault(1, "  \n^steps 12;");
        Check.drumFault(1, "^;");
        Check.drumFault(1, "^drumsteps 12 jam 5 slack 2;");
        Check.drumFault(1, "^Drum steps 12 jam 5 slack 2;");
        Check.drumFault(1, "^crum steps 12 jam 5 slack 2;");
        Check.drumFault(1, "^drumz steps 12 jam 5 slack 2;");
        Check.drumFault(1, "^drua steps 12 jam 5 slack 2;");
        Check.drumFault(1, "^dru steps 12 jam 5 slack 2;");
        Check.drumFault(1, D + "^xrack;");
        Check.drumFault(1, D + "^trackz;");
        Check.drumFault(1, D + "^tracka;");
        Check.drumFault(1, D + "track^`;");
        Check.drumFault(1, D + "track^|;");
        Check.drumFault(1, D + "gear 1^/");
        Check.drumFault(1, D + "gear 1^:");
        Check.drumFault(1, "drum^#steps 12 jam 5 slack 2;");
        Check.drumFault(1, "drum^\tsteps 12 jam 5 slack 2;");
        Check.drumFault(1, "drum ^12 jam 5 slack 2;");
        Check.drumFault(1, "drum steps ^jam 5 slack 2;");
        Check.drumFault(1, "drum steps 12 ^slack 2;");
        Check.drumFault(1, "drum steps 12 jam 5 slack ^;");
        Check.drumFault(1, "drum steps 12 jam 5 slack ^-1;");
        Check.drumFault(1, "drum steps 12 jam 5 slack 2^");
        Check.drumFault(1, "drum steps 12 jam 5 slack 2  \n ^");
        Check.drumFault(1, "drum steps 12 jam 5 slack^");
        Check.drumFault(1, "drum steps 12 jam 5 slack 2 ^track;");
        Check.drumFault(1, D + "^drum steps 12 jam 5 slack 2;");
        Check.drumFault(1, D + "^;");
        Check.drumFault(1, D + "^12;");
        Check.drumFault(1, D + "^{");
        Check.drumFault(1, D + "^}");
        Check.drumFault(1, D + "^.");
        Check.drumFault(1, D + "^on;");
        Check.drumFault(1, D + "track ^0;");
        Check.drumFault(1, D + "track; ^tracks;");
        Check.drumFault(1, D + "track; nose ^at 0;");
        Check.drumFault(1, D + "track; nose on 0 ^wide 1;");
        Check.drumFault(1, D + "track; nose on 0 at 1 ^high 1;");
        Check.drumFault(1, D + "track; nose on 0 at 1 wide 1 ^steep 1;");
        Check.drumFault(1, D + "track; nose on 0 at 1 wide 1 high 1 ^;");
        Check.drumFault(1, D + "track; knife ^0 on 0 spring 1 lag 0;");
        Check.drumFault(1, D + "track; knife on 0 ^lag 0;");
        Check.drumFault(1, D + "track; knife on 0 spring 1 ^;");
        Check.drumFault(1, D + "track; roller ^on 0 spring 1 lag 0;");
        Check.drumFault(1, D + "track; flat ^on 0 spring 1 lag 0;");
        Check.drumFault(1, D + "track; knife on 0 spring 1 lag 0; lever ^0 1 over 2;");
        Check.drumFault(1, D + "track; knife on 0 spring 1 lag 0; lever on 0 ^over 2;");
        Check.drumFault(1, D + "track; knife on 0 spring 1 lag 0; lever on 0 1 ^2;");
        Check.drumFault(1, D + "track; knife on 0 spring 1 lag 0; pawl on 0 ^teeth 2;");
        Check.drumFault(1, D + "track; knife on 0 spring 1 lag 0; pawl on 0 at 2 ^;");
        Check.drumFault(1, D + "gear 1 ^2;");
        Check.drumFault(1, D + "gear ^to 2;");
        Check.drumFault(1, D + "gear^");
    }

    private static void drumFaults2() {
        String t = D + "track;";
        String k = t + "knife on 0 spring 1 lag 0;";
        Check.drumFault(2, "drum steps ^3 jam 5 slack 2;");
        Check.drumFault(2, "drum steps ^61 jam 5 slack 2;");
        Check.drumFault(2, "drum steps ^99999999999999999999 jam 0 slack 2;");
        Check.drumFault(2, "drum steps ^4294967308 jam 5 slack 2;");
        Check.drumFault(2, "drum steps 12 jam ^0 slack 2;");
        Check.drumFault(2, "drum steps 12 jam ^61 slack 2;");
        Check.drumFault(2, "drum steps 12 jam 5 slack ^10;");
        Check.drumFault(2, D + "nose on ^0 at 0 wide 1 high 1 steep 1;");
        Check.drumFault(2, t + "nose on ^1 at 0 wide 1 high 1 steep 1;");
        Check.drumFault(2, t + "nose on 0 at ^12 wide 1 high 1 steep 1;");
        Check.drumFault(2, t + "nose on 0 at 11 wide ^0 high 1 steep 1;");
        Check.drumFault(2, t + "nose on 0 at 11 wide ^13 high 1 steep 1;");
        Check.drumFault(2, t + "nose on 0 at 11 wide 12 high ^0 steep 1;");
        Check.drumFault(2, t + "nose on 0 at 11 wide 12 high ^61 steep 1;");
        Check.drumFault(2, t + "nose on 0 at 11 wide 12 high 60 steep ^0;");
        Check.drumFault(2, t + "nose on 0 at 11 wide 12 high 60 steep ^61;");
        Check.drumFault(2, D + "knife on ^0 spring 1 lag 0;");
        Check.drumFault(2, t + "knife on ^1 spring 1 lag 0;");
        Check.drumFault(2, t + "knife on 0 spring ^0 lag 0;");
        Check.drumFault(2, t + "knife on 0 spring ^61 lag 0;");
        Check.drumFault(2, t + "knife on 0 spring 60 lag ^21;");
        Check.drumFault(2, t + "roller ^10 on 0 spring 1 lag 0;");
        Check.drumFault(2, t + "flat ^10 on 0 spring 1 lag 0;");
        Check.drumFault(2, t + "lever on ^0 1 over 1;");
        Check.drumFault(2, k + "lever on ^1 1 over 1;");
        Check.drumFault(2, k + "lever on 0 ^0 over 1;");
        Check.drumFault(2, k + "lever on 0 ^10 over 1;");
        Check.drumFault(2, k + "lever on 0 9 over ^0;");
        Check.drumFault(2, k + "lever on 0 9 over ^10;");
        Check.drumFault(2, t + "pawl on ^0 at 1 teeth 2;");
        Check.drumFault(2, k + "pawl on ^1 at 1 teeth 2;");
        Check.drumFault(2, k + "pawl on 0 at ^0 teeth 2;");
        Check.drumFault(2, k + "pawl on 0 at ^100 teeth 2;");
        Check.drumFault(2, k + "pawl on 0 at 99 teeth ^1;");
        Check.drumFault(2, k + "pawl on 0 at 99 teeth ^31;");
        Check.drumFault(2, D + "gear ^0 to 1;");
        Check.drumFault(2, D + "gear ^61 to 1;");
        Check.drumFault(2, D + "gear 60 to ^0;");
        Check.drumFault(2, D + "gear 60 to ^61;");
        Check.drumFault(2, D + "gear 60 to 60; ^gear 60 to 60;");
        Check.drumFault(2, D + "gear 60 to 60; ^gear #");
    }

    private static void drumFaults3() {
        String six = D + "track;track;track;track;track;track;";
        Check.drumFault(3, six + " ^track;");
        Check.drumFault(3, six + "^track #");
        StringBuilder noses = new StringBuilder(six);
        for (int i = 0; i < 24; i++) {
            noses.append("nose on 0 at 0 wide 1 high 1 steep 1;");
        }
        Check.drumFault(3, noses + "^nose on 9");
        StringBuilder followers = new StringBuilder(six + "knife on 0 spring 1 lag 1;");
        for (int i = 0; i < 9; i++) {
            followers.append("lever on 0 1 over 1;");
        }
        Check.drumFault(3, followers + "^knife on 0 spring 1 lag 0;");
        Check.drumFault(3, followers + "^roller 0 on 0 spring 1 lag 0;");
        Check.drumFault(3, followers + "^flat 0 on 0 spring 1 lag 0;");
        Check.drumFault(3, followers + "^lever on 0 1 over 1;");
        StringBuilder pawls = new StringBuilder(followers);
        for (int i = 0; i < 4; i++) {
            pawls.append("pawl on 9 at 1 teeth 2;");
        }
        Check.drumFault(3, pawls + "^pawl on 0 at 1 teeth 2;");
    }

    /** What was cut off the tape is not read, though it goes on with a word or a number. */
    private static void cutOff() {
        NoseDrum x = new NoseDrum();
        Check.tell(x, D + "tracks");
        x.end(D.length() + 5);
        Check.due("drum()", x.drum(), -4);
        Check.due("fault(1) behind a word", x.fault(1), D.length() + 5);
        Check.tell(x, ";gear 1 to 12");
        x.end(D.length() + 17);
        Check.due("drum()", x.drum(), -4);
        Check.due("fault(1) behind a number", x.fault(1), D.length() + 17);
        Check.tell(x, ";  ");
        x.end(D.length() + 18);
        Check.due("drum()", x.drum(), 3);
        x.turn(3);
        Check.due("by gear 1 to 1", x.stands(4), 3);
    }

    /** As many acts as the tape has room for. */
    private static void mostActs() {
        NoseDrum x = Check.drumOf("drum steps 60 jam 5 slack 2;track;knife on 0 spring 1 lag 0;", 3);
        Check.motionOf(x, "up0;".repeat(400), 59);
        Check.motionOf(x, "times2{}".repeat(200), 0);
        Check.motionOf(x, "times2{}".repeat(199) + "hold 3; ", 3);
        Check.motionOf(x, "times2{".repeat(5) + "up1;".repeat(300) + "}".repeat(5), 59);
        Check.due("the last step", x.rowAt(59), 59);
    }

    private static void motions() {
        NoseDrum x = new NoseDrum();
        Check.tell(x, "up 1;");
        Check.due("motion() without a drum", x.motion(), -2);
        Check.due("the tape is empty then", x.count(6), 0);
        Check.due("fault(1) as ahead of it", x.fault(1), -1);
        Check.tell(x, "x");
        Check.due("a faulty drum()", x.drum(), -4);
        Check.due("its fault", x.fault(0), 1);
        Check.due("its place", x.fault(1), 0);
        Check.due("motion() without a drum", x.motion(), -2);
        Check.due("the fault stays by -2", x.fault(0), 1);
        Check.due("its place stays by -2", x.fault(1), 0);

        x = Check.drumOf(D + "track;nose on 0 at 2 wide 2 high 6 steep 2;knife on 0 spring 1 lag 2;", 4);
        Check.due("no motion", x.count(9), 0);
        Check.due("an empty motion()", x.motion(), 0);
        Check.due("a motion", x.count(9), 1);
        Check.due("its row", x.rowAt(11), 0);
        Check.motionOf(x, "up 0;", 1);
        Check.motionOf(x, "up 60;down 60;hold 60;", 11);
        Check.motionOf(x, "hold 1;hold 1;", 2);
        Check.motionOf(x, "times 60 { up 1; }", 11);
        Check.motionOf(x, "times 2{times 2{times 2{times 2{times 2{}}}}}", 0);
        Check.motionOf(x, "times 60{times 60{times 60{times 60{if 0 above 999{up 1;}}}}}", 0);
        Check.motionOf(x, "times 60{times 60{times 60{times 60{times 60{}}}}}up 3;", 1);
        Check.motionOf(x, "if0above999{up 1;}", 0);
        Check.motionOf(x, "if 0 above 0 { if 0 above 1 { up 1 ; } } if 0 above 3 { up 1; }", 2);

        // A fault leaves the motion and the tape.
        Check.motionOf(x, "up 7;", 1);
        Check.motionFault(x, 1, "up 1;^#");
        Check.due("the row stays", x.rowAt(1), 7);
        Check.due("a motion stays", x.count(9), 1);
    }

    private static void motionFaults() {
        NoseDrum x = Check.drumOf(D + "track;knife on 0 spring 1 lag 2;", 3);
        Check.motionFault(x, 1, "^;");
        Check.motionFault(x, 1, "^}");
        Check.motionFault(x, 1, "^{}");
        Check.motionFault(x, 1, "^5;");
        Check.motionFault(x, 1, "^drum;");
        Check.motionFault(x, 1, "up ^;");
        Check.motionFault(x, 1, "up 5^");
        Check.motionFault(x, 1, "up 5  ^");
        Check.motionFault(x, 1, "up 5 ^up 6;");
        Check.motionFault(x, 1, "^upp 5;");
        Check.motionFault(x, 1, "^upz 5;");
        Check.motionFault(x, 1, "^p 5;");
        Check.motionFault(x, 1, "^zp 5;");
        Check.motionFault(x, 1, "down ^x;");
        Check.motionFault(x, 1, "hold ^{");
        Check.motionFault(x, 1, "times 2 ^up 1;");
        Check.motionFault(x, 1, "times 2 ^;");
        Check.motionFault(x, 1, "times 2 {^");
        Check.motionFault(x, 1, "times 2 { up 1; ^");
        Check.motionFault(x, 1, "times 2 { } ^}");
        Check.motionFault(x, 1, "times 2 { ^{ } }");
        Check.motionFault(x, 1, "times 2 { } ^;");
        Check.motionFault(x, 1, "if ^above 1 { }");
        Check.motionFault(x, 1, "if 0 ^1 { }");
        Check.motionFault(x, 1, "if 0 above ^{ }");
        Check.motionFault(x, 1, "if 0 above 1 ^up 1;");
        Check.motionFault(x, 2, "up ^61;");
        Check.motionFault(x, 2, "down ^61;");
        Check.motionFault(x, 2, "hold ^0;");
        Check.motionFault(x, 2, "hold ^61;");
        Check.motionFault(x, 2, "times ^1 { }");
        Check.motionFault(x, 2, "times ^61 { }");
        Check.motionFault(x, 2, "if ^1 above 1 { }");
        Check.motionFault(x, 2, "if 0 above ^1000 { }");
        Check.motionFault(x, 2, "times 2 { up ^18446744073709551617; }");
        Check.motionFault(x, 3, "times 2{if 0 above 0{times 2{times 2{times 2{times 2^{}}}}}}");
        Check.motionFault(x, 3, "times 2{times 2{times 2{times 2{times 2{}if 0 above 0{if 0 above 0 ^{ #");
        Check.motionFault(x, 1, "times 2{times 2{times 2{times 2{times 2{^{}}}}}}");
        Check.motionFault(x, 1, "times 2{times 2{times 2{times 2{times 2{times 2 ^}}}}}}");
    }
}
