import java.util.function.Consumer;

/** What is full: a tape of 1,600 bytes, a drum of all that it may have, rows of 60 numbers, three images, 512 calls. */
public final class FullTest {
    public static void main(String[] args) {
        fullTape();
        fullDrum();
        lastNose();
        chainOfLevers();
        fullRows();
        widths();
        pastes();
        fullImages();
        manySteps();
        fullMotion();
        idleActs();
        fourPawls();
        lastCall();
        Check.finish();
    }

    private static void due(String call, long got, long want) {
        Check.due(call, got, want);
    }

    private static void text(String what, String got, String want) {
        due(what + " is " + got + ", due is " + want, got.equals(want) ? 1 : 0, 1);
    }

    /** Read whole, to its last byte. */
    private static void fullTape() {
        String line = "drum steps 12 jam 5 slack 2;";
        String whole = line + " ".repeat(1600 - line.length() - 6) + "track;";
        NoseDrum x = Check.drumOf(whole, 2);
        due("the track of the last bytes", x.count(1), 1);
        due("the tape is empty then", x.count(6), 0);
        String acts = "up 1;" + "\n".repeat(1590) + "up 2;";
        Check.motionOf(x, acts, 2);
        due("the act of the last bytes", x.rowAt(2), 3);
        NoseDrum y = new NoseDrum();
        Check.tell(y, whole);
        due("feed behind a full one", y.feed(0, 0, 0, 0, 0), -1);
        due("it has as many as it had", y.count(6), 1600);
        due("end(1600)", y.end(1600), 1600);
        due("end(1601)", y.end(1601), -1);
        due("drum()", y.drum(), 2);
        due("feed behind an empty one", y.feed(0, 0, 0, 0, 0), 20);
        // A number and a word of a whole tape.
        Check.drumFault(2, "drum steps ^" + "9".repeat(1589));
        Check.drumFault(1, "drum ^" + "s".repeat(1595));
        NoseDrum z = new NoseDrum();
        Check.tell(z, "drum steps " + "0".repeat(1560) + "12 jam 5 slack 2;");
        due("digits 0 of a whole tape", z.drum(), 1);
        due("steps", z.count(0), 12);
    }

    private static String full() {
        StringBuilder text = new StringBuilder("drum steps 60 jam 60 slack 9;" + "track;".repeat(6));
        for (int i = 0; i < 24; i++) {
            text.append("nose on " + i % 6 + " at " + (36 + i) + " wide 1 high " + (i + 1) + " steep 60;");
        }
        for (int f = 0; f < 10; f++) {
            text.append("knife on " + f % 6 + " spring 60 lag " + 2 * f + ";");
        }
        for (int p = 0; p < 4; p++) {
            text.append("pawl on " + (6 + p) + " at 1 teeth " + (27 + p) + ";");
        }
        return text + "gear 59 to 60;";
    }

    private static void fullDrum() {
        NoseDrum x = Check.drumOf(full(), 1 + 6 + 24 + 10 + 4 + 1);
        int[] counts = {60, 6, 24, 10, 4, 46, 0, 60, 9, 0, 0, 0};
        for (int what = 0; what < counts.length; what++) {
            due("count(" + what + ")", x.count(what), counts[what]);
        }
        for (int i = 0; i < 24; i++) {
            int[] want = {i % 6, 36 + i, 1, i + 1, 60, 0};
            for (int what = 0; what < 6; what++) {
                due("nose(" + i + ", " + what + ")", x.nose(i, what), want[what]);
            }
            due("its profile", x.profile(i % 6, 36 + i), i + 1);
            due("its lift", x.lift(i % 6, 36 + i), i + 1);
            due("heard behind it", x.heard(i % 6, i + 1) >> (37 + i) % 60 & 1, 1);
        }
        for (int t = 0; t < 6; t++) {
            due("covers", x.covers(t, 0), 4);
            due("steep", x.steep(t), 19 + t);
        }
        due("spare", x.spare(), 0);
        // Each track has 4 noses; the knives of the first four tracks are two.
        int once = 0;
        for (int i = 0; i < 24; i++) {
            once += (i + 1) * (i % 6 < 4 ? 2 : 1);
        }
        due("work", x.work(), once);
        for (int p = 0; p < 4; p++) {
            due("clicks", x.clicks(p), 4);
        }
        due("turn(60)", x.turn(60), 60);
        due("WORK", x.stands(2), once);
        due("SECOND", x.stands(4), 59);
        for (int p = 0; p < 4; p++) {
            due("pawl", x.pawl(p), 4);
        }
        // Nose 23 is on track 5 at step 59, nose 22 on track 4 at step 58.
        for (int f = 0; f < 10; f++) {
            due("sort", x.follower(f, 3), 0);
            due("MOVED of " + f, x.follower(f, 1), x.lift(f, (60 - 2 * f) % 60));
        }
        due("MOVED of follower 1, 2 late: step 58 of track 1", x.follower(1, 1), 0);
        due("turn(1)", x.turn(1), 1);
        due("MOVED of follower 5, 10 late: step 51 of track 5", x.follower(5, 1), 0);
        x.turn(2);
        due("MOVED of follower 5, 10 late: step 53 of track 5", x.follower(5, 1), 18);
        int bits = 0;
        for (int i = 0; i < 24; i++) {
            due("breaks", x.breaks(i, true), 0);
            bits |= 1 << i;
            due("BROKEN", x.count(10), bits);
        }
        due("spare: all are broken", x.spare(), (1 << 24) - 1);
    }

    /** Nose 23, follower 9, step 59: the highest bits of each answer. */
    private static void lastNose() {
        NoseDrum x = Check.drumOf(full(), 46);
        // Knife 9 is on track 3, that of noses 3, 9, 15 and 21, at steps 39, 45, 51 and 57.
        due("heard of knife 9", x.heard(9, 1), 1L << 40 | 1L << 46 | 1L << 52 | 1L << 58);
        due("heard of knife 9 at 22", x.heard(9, 22), 1L << 58);
        due("heard of knife 5 over the end", x.heard(5, 24), 1L);
        due("heard of knife 4 at the last step", x.heard(4, 23), 1L << 59);
        Check.numbers(x, 3, 0, 0);
        // Heard at step 0 alone of knife 5 at 24: whole, or whatever befalls the others.
        int others = 0;
        for (int i = 0; i < 23; i++) {
            others += 1 + Math.min(9, i + 1);
        }
        due("faults", x.faults(5, 24, 3), 1 + others);
        due("BROKEN", x.guess(5, 24, 3, 0), (1 << 23) - 1);
        due("WORN", x.guess(5, 24, 3, 1), (1 << 23) - 1);
        x.row(3, 0, 0);
        due("faults of silence", x.faults(5, 24, 3), 1 + 9);
        due("BROKEN", x.guess(5, 24, 3, 0), 1 << 23);
        due("WORN", x.guess(5, 24, 3, 1), 1 << 23);
        due("least", x.guess(5, 24, 3, 3), 1);
        due("margin of the last nose", x.margin(23, 5, 24), 0);
        due("margin of the last nose at 20", x.margin(23, 5, 20), 4);
        due("margin of another track", x.margin(23, 9, 1), 24);
        due("meet of the last", x.meet(23, 22), 0);
        due("meet of the last of its track", x.meet(23, 17), 0);
        due("breaks(23, true)", x.breaks(23, true), 0);
        due("BROKEN", x.count(10), 1 << 23);
        due("spare", x.spare(), 1 << 23);
        due("wear(23, 60)", x.wear(23, 60), 0);
        due("WORN", x.nose(23, 5), 24);
        Check.motionOf(x, "if 9 above 0 { up 1; } hold 39; if 9 above 3 { up 7; } if 9 above 0 { up 1; }", 40);
        Check.motionOf(x, "hold 39; if 9 above 3 { up 7; } if 9 above 0 { up 1; }", 40);
        due("the row by knife 9", x.rowAt(40), 7);
    }

    /** Ten followers, nine of them levers, each over the one ahead of it. */
    private static void chainOfLevers() {
        StringBuilder text = new StringBuilder("drum steps 8 jam 60 slack 0;track;nose on 0 at 7 wide 1 high 1 steep 60;roller 0 on 0 spring 60 lag 3;");
        for (int f = 0; f < 9; f++) {
            text.append("lever on " + f + " 2 over 1;");
        }
        NoseDrum x = Check.drumOf(text + "pawl on 9 at 99 teeth 2;", 14);
        for (int f = 0; f < 10; f++) {
            due("lift of " + f, x.lift(f, 7), 1 << f);
            due("steady of " + f, x.steady(f, 7), 1 << f);
            due("heard of " + f, x.heard(f, 1), 1);
            due("spring of " + f, x.spring(f), f == 0 ? 1 : -1);
        }
        x.turn(7);
        for (int f = 0; f < 10; f++) {
            due("POS of " + f, x.follower(f, 0), 1 << f);
            due("MOVED of " + f, x.follower(f, 1), f == 0 ? 0 : 1 << f);
        }
        due("WORK of the roller alone", x.stands(2), 1);
        due("work of the roller alone", x.work(), 1);
        due("pawl", x.pawl(0), 1);
        due("clicks", x.clicks(0), 1);
    }

    private static void fullRows() {
        for (int slot = 0; slot < 4; slot++) {
            for (int width = 0; width < 4; width++) {
                NoseDrum x = new NoseDrum();
                StringBuilder want = new StringBuilder("of width " + width + ":");
                due("row", x.row(slot, width, 60), 0);
                for (int i = 0; i < 60; i++) {
                    due("write", x.write(slot, i, i + 1), 0);
                    want.append(" ").append(i + 1);
                }
                due("write behind the last", x.write(slot, 60, 1), -7);
                text("slot " + slot, Twin.numbers(x, slot), want.toString());
                // A row in place of it is all 0, a shorter one, too.
                x = new NoseDrum();
                x.row(slot, width, 60);
                for (int i = 0; i < 60; i++) {
                    x.write(slot, i, 7);
                }
                due("row", x.row(slot, 3 - width, 5), 0);
                due("row", x.row(slot, width, 60), 0);
                text("a row in its place", Twin.numbers(x, slot), "of width " + width + ":" + " 0".repeat(60));
            }
        }
        // All four at once, each its own.
        for (int slot = 0; slot < 4; slot++) {
            NoseDrum x = new NoseDrum();
            for (int of = 0; of < 4; of++) {
                x.row(of, of, 60);
                for (int i = 0; i < 60; i++) {
                    x.write(of, i, (i + 15 * of) % 61);
                }
            }
            due("four rows", x.count(11), 4);
            StringBuilder want = new StringBuilder("of width " + slot + ":");
            for (int i = 0; i < 60; i++) {
                want.append(" ").append((i + 15 * slot) % 61);
            }
            text("slot " + slot + " of four", Twin.numbers(x, slot), want.toString());
        }
    }

    /** Cut to 1, 2, 4 or 8 bytes: what is above them is gone, and no more. */
    private static void widths() {
        long[][] sevens = {
            {7, 7 + 256, 7 - 256, 7 + (1L << 40), Long.MIN_VALUE + 7},
            {7, 7 + 65536, 7 - 65536, 7 + (1L << 40), Long.MIN_VALUE + 7},
            {7, 7 + (1L << 32), 7 - (1L << 32), 7 + (1L << 40), Long.MIN_VALUE + 7},
            {7}};
        long[][] others = {
            {7 + 128, 7 - 128, 7 + 64, -7, Long.MAX_VALUE, Long.MIN_VALUE + 128, -1},
            {7 + 256, 7 - 256, 7 + 128, 7 + 32768, 7 - 32768, Long.MAX_VALUE},
            {7 + 256, 7 + 65536, 7 - 65536, 7 + (1L << 31), 7 - (1L << 31), Long.MAX_VALUE},
            {7 + 256, 7 + 65536, 7 + (1L << 32), 7 - (1L << 32), 7 + (1L << 40), Long.MIN_VALUE + 7, Long.MAX_VALUE}};
        for (int width = 0; width < 4; width++) {
            for (long v : sevens[width]) {
                NoseDrum x = new NoseDrum();
                Check.numbers(x, 0, width, 1, v, 2);
                text("cut to width " + width + " of " + v, Twin.numbers(x, 0), "of width " + width + ": 1 7 2");
            }
            for (long v : others[width]) {
                NoseDrum x = new NoseDrum();
                Check.numbers(x, 0, width, 1, v, 2);
                text("not 7 by width " + width + " of " + v, Twin.numbers(x, 0), "of width " + width + ": 1 ? 2");
            }
        }
    }

    private static String numbersOf(int slot, Consumer<NoseDrum> run) {
        NoseDrum x = new NoseDrum();
        run.accept(x);
        return Twin.numbers(x, slot);
    }

    private static void counted(NoseDrum x, int slot, int n) {
        x.row(slot, 1, n);
        for (int i = 0; i < n; i++) {
            x.write(slot, i, i + 1);
        }
    }

    private static String row(int... numbers) {
        StringBuilder want = new StringBuilder("of width 1:");
        for (int n : numbers) {
            want.append(' ').append(n);
        }
        return want.toString();
    }

    /** As they were: within one row the numbers that are put are those ahead of the call. */
    private static void pastes() {
        text("all up by one", numbersOf(0, x -> {
            counted(x, 0, 6);
            due("paste", x.paste(0, 0, 0, 1, 5), 0);
        }), row(1, 1, 2, 3, 4, 5));
        text("all down by one", numbersOf(0, x -> {
            counted(x, 0, 6);
            due("paste", x.paste(0, 1, 0, 0, 5), 0);
        }), row(2, 3, 4, 5, 6, 6));
        text("onto themselves", numbersOf(0, x -> {
            counted(x, 0, 6);
            due("paste", x.paste(0, 2, 0, 2, 4), 0);
        }), row(1, 2, 3, 4, 5, 6));
        text("none", numbersOf(0, x -> {
            counted(x, 0, 6);
            due("paste", x.paste(0, 6, 0, 0, 0), 0);
            due("paste", x.paste(0, 0, 0, 6, 0), 0);
        }), row(1, 2, 3, 4, 5, 6));
        text("to another one, its last", numbersOf(3, x -> {
            counted(x, 0, 6);
            counted(x, 3, 4);
            due("paste", x.paste(0, 4, 3, 2, 2), 0);
        }), row(1, 2, 5, 6));
        text("from it nothing is taken", numbersOf(0, x -> {
            counted(x, 0, 6);
            counted(x, 3, 4);
            due("paste", x.paste(0, 4, 3, 2, 2), 0);
        }), row(1, 2, 3, 4, 5, 6));
        text("one too many", numbersOf(3, x -> {
            counted(x, 0, 6);
            counted(x, 3, 4);
            due("paste", x.paste(0, 3, 3, 2, 3), -7);
        }), row(1, 2, 3, 4));
        int[] up = new int[60];
        for (int i = 0; i < 60; i++) {
            up[i] = Math.max(1, i);
        }
        text("sixty up by one", numbersOf(2, x -> {
            counted(x, 2, 60);
            due("paste", x.paste(2, 0, 2, 1, 59), 0);
        }), row(up));
        text("sixty to another one", numbersOf(1, x -> {
            counted(x, 2, 60);
            x.row(1, 1, 60);
            due("paste", x.paste(2, 0, 1, 0, 60), 0);
            due("paste", x.paste(1, 0, 1, 1, 59), 0);
        }), row(up));
    }

    /** Three images, each its own; kept anew, the latest counts. */
    private static void fullImages() {
        String[] more = {"", "track;", "track;track;nose on 1 at 3 wide 1 high 9 steep 1;knife on 1 spring 1 lag 3;"};
        Consumer<NoseDrum> kept = x -> {
            for (int k = 0; k < 3; k++) {
                Check.tell(x, "drum steps " + (10 + k) + " jam 60 slack " + k + ";" + more[k]);
                x.drum();
                Check.tell(x, "up " + k + ";");
                x.motion();
                x.turn(3 + k);
                x.turn(-1);
                x.wear(0, 2);
                due("keep", x.keep(k), 0);
            }
            Check.tell(x, "drum steps 60 jam 1 slack 9;");
            x.drum();
        };
        for (int k = 0; k < 3; k++) {
            int of = k;
            for (int round = 0; round < 2; round++) {
                NoseDrum x = new NoseDrum();
                kept.accept(x);
                due("back", x.back(k), 0);
                due("steps", x.count(0), 10 + k);
                due("slack", x.count(8), k);
                due("tracks", x.count(1), k);
                due("motion", x.rowAt(1), k);
                due("ANGLE", x.stands(0), k == 0 ? 2 : 3 + k);
                due("STEPS", x.stands(1), 4 + k);
                due("WORN", x.nose(0, 5), k == 2 ? 2 : -2);
            }
            // Gone on and gone back again it is the same; what is changed then does not reach the image.
            Twin.alike("back twice", kept.andThen(x -> {
                x.back(of);
                x.turn(7);
                x.wear(0, 5);
                x.breaks(0, true);
                x.motion();
                x.back(of);
            }), kept.andThen(x -> x.back(of)));
            Twin.alike("kept of what it is", kept.andThen(x -> {
                x.back(of);
                x.keep(of);
            }), kept.andThen(x -> x.back(of)));
            Twin.alike("from one to another", kept.andThen(x -> {
                x.back((of + 1) % 3);
                x.turn(-5);
                x.back(of);
            }), kept.andThen(x -> x.back(of)));
            // The tape, the fault and the slots are not kept.
            NoseDrum y = new NoseDrum();
            kept.accept(y);
            Check.tell(y, "x");
            due("a fault", y.drum(), -4);
            Check.numbers(y, 1, 0, 3);
            due("keep", y.keep(k), 0);
            y.end(0);
            due("an empty drum()", y.drum(), 0);
            Check.tell(y, "abc");
            y.row(2, 0, 1);
            due("back", y.back(k), 0);
            due("the tape stays", y.count(6), 3);
            due("the fault stays", y.fault(0), 0);
            due("its place stays", y.fault(1), -1);
            due("the slots stay", y.count(11), 2);
            due("the drum is back", y.count(0), 60);
        }
        jamsKept();
        allIsKept();
    }

    /** Two drums that have no number in common: each comes back whole from its image, also over the other one. */
    private static void allIsKept() {
        String one = "drum steps 12 jam 60 slack 2;track;track;nose on 1 at 3 wide 2 high 9 steep 4;knife on 0 spring 2 lag 3;"
            + "roller 2 on 1 spring 4 lag 5;lever on 1 3 over 2;flat 1 on 1 spring 1 lag 0;pawl on 2 at 5 teeth 7;pawl on 1 at 8 teeth 3;gear 5 to 3;";
        String other = "drum steps 9 jam 59 slack 1;track;track;nose on 0 at 5 wide 3 high 7 steep 2;nose on 1 at 0 wide 1 high 60 steep 60;"
            + "flat 2 on 0 spring 3 lag 1;knife on 1 spring 9 lag 7;roller 1 on 0 spring 2 lag 2;lever on 2 2 over 3;"
            + "pawl on 3 at 2 teeth 4;pawl on 0 at 6 teeth 9;gear 2 to 7;";
        for (int swap = 0; swap < 2; swap++) {
            String first = swap == 0 ? one : other;
            String second = swap == 0 ? other : one;
            Consumer<NoseDrum> told = x -> {
                Check.tell(x, first);
                x.drum();
                Check.tell(x, "up 4;if 1 above 3 { down 1; } hold 2;");
                x.motion();
                x.turn(17);
                x.turn(-4);
                x.wear(0, 3);
                x.keep(2);
            };
            Twin.alike("back over another drum", told.andThen(x -> {
                Check.tell(x, second);
                x.drum();
                Check.tell(x, "up 7;");
                x.motion();
                x.turn(-30);
                x.breaks(0, true);
                x.back(2);
            }), told);
        }
    }

    /** Who jammed last, how often, slack and pawls are kept, too. */
    private static void jamsKept() {
        NoseDrum x = Check.drumOf("drum steps 6 jam 2 slack 2;track;track;nose on 1 at 2 wide 1 high 5 steep 9;knife on 0 spring 9 lag 0;"
            + "knife on 1 spring 9 lag 0;pawl on 1 at 5 teeth 9;", 7);
        x.keep(1);
        due("turn", x.turn(3), 1);
        x.keep(0);
        due("JAMMED by knife 1", x.follower(1, 4), 1);
        x.back(1);
        due("JAMMED by none", x.follower(1, 4), 0);
        due("how many were", x.stands(5), 0);
        due("the first step of all has no slack", x.turn(-1), 1);
        due("ANGLE", x.stands(0), -1);
        x.back(0);
        due("JAMMED by knife 1", x.follower(1, 4), 1);
        due("JAMMED not by knife 0", x.follower(0, 4), 0);
        due("how many were", x.stands(5), 1);
        due("slack behind a step forth", x.turn(-1), 1);
        due("ANGLE", x.stands(0), 1);
        due("slack left", x.stands(3), 1);
    }

    /** As far as 512 calls can turn it. */
    private static void manySteps() {
        NoseDrum x = Check.drumOf("drum steps 59 jam 60 slack 0;track;nose on 0 at 58 wide 1 high 60 steep 60;"
            + "knife on 0 spring 60 lag 20;".repeat(10) + "pawl on 9 at 60 teeth 29;gear 60 to 59;", 15);
        for (int i = 0; i < 500; i++) {
            due("turn(600)", x.turn(600), 600);
        }
        // 300,000 steps are 5,084 turns and 44 steps.
        due("ANGLE", x.stands(0), 300000);
        due("STEPS", x.stands(1), 300000);
        due("WORK", x.stands(2), 5084 * 60 * 10);
        due("SECOND", x.stands(4), (int) (300000L * 60 / 59 % 59));
        due("pawl", x.pawl(0), 5084 % 29);
        NoseDrum y = Check.drumOf("drum steps 59 jam 60 slack 0;track;nose on 0 at 58 wide 1 high 60 steep 60;"
            + "knife on 0 spring 60 lag 20;".repeat(10) + "pawl on 9 at 60 teeth 29;gear 60 to 59;", 15);
        for (int i = 0; i < 500; i++) {
            due("turn(-600)", y.turn(-600), 600);
        }
        due("ANGLE back", y.stands(0), -300000);
        due("SECOND back", y.stands(4), (int) Math.floorMod(-(300000L * 60 / 59), 59L));
        due("WORK back", y.stands(2), 5085 * 60 * 10);
        due("pawl back", y.pawl(0), 5085 % 29);
    }

    /** As many acts and braces as a tape has room for. */
    private static void fullMotion() {
        NoseDrum x = Check.drumOf("drum steps 60 jam 60 slack 0;track;nose on 0 at 0 wide 60 high 5 steep 1;knife on 0 spring 1 lag 0;", 4);
        Check.motionOf(x, "up1;".repeat(400), 59);
        due("rowAt(59)", x.rowAt(59), 59);
        Check.motionOf(x, "times2{}".repeat(199) + "up 60;  ", 1);
        due("rowAt(1)", x.rowAt(1), 60);
        Check.motionOf(x, "if0above5{}".repeat(144) + "up 9;", 1);
        due("rowAt(1)", x.rowAt(1), 9);
        Check.motionOf(x, "if0above4{}".repeat(144) + "up 9;", 1);
        due("rowAt(1)", x.rowAt(1), 9);
        Check.motionOf(x, "if0above4{up1;}".repeat(59), 59);
        Check.motionOf(x, "if0above5{up1;}".repeat(59) + "hold 2;", 2);
        Check.motionOf(x, "times2{times2{times2{times2{times2{up1;}}}}}", 32);
        due("thirty-two times", x.rowAt(59), 32);
        Check.motionOf(x, "times3{times2{up1;}times2{down1;}hold1;}", 15);
        int[] want = {0, 1, 2, 1, 0, 0, 1, 2, 1, 0, 0, 1, 2, 1, 0, 0};
        for (int s = 0; s < want.length; s++) {
            due("rowAt(" + s + ")", x.rowAt(s), want[s]);
        }
        Check.motionOf(x, "times2{if0above4{up2;if0above5{up9;}hold1;}times2{}down1;}", 6);
        int[] row = {0, 2, 2, 1, 3, 3, 2};
        for (int s = 0; s < row.length; s++) {
            due("rowAt(" + s + ")", x.rowAt(s), row[s]);
        }
    }

    /** Acts that come to no step, as many and as often as can be, at each of 24 steps: they end, and the row goes on. */
    private static void idleActs() {
        StringBuilder text = new StringBuilder("drum steps 60 jam 60 slack 0;track;");
        for (int i = 0; i < 24; i++) {
            text.append("nose on 0 at " + 2 * i + " wide 1 high 1 steep 60;");
        }
        NoseDrum x = Check.drumOf(text + "knife on 0 spring 1 lag 0;", 27);
        Check.motionOf(x, "times60{".repeat(4) + "if0above0{up1;}" + "times2{}".repeat(190) + "}}}hold1;}", 59);
        for (int s = 0; s < 60; s++) {
            due("rowAt(" + s + ")", x.rowAt(s), Math.min(24, (s + 1) / 2));
        }
    }

    /** Four pawls, all of which are to be back. */
    private static void fourPawls() {
        String text = "drum steps 12 jam 60 slack 0;track;nose on 0 at 3 wide 1 high 9 steep 60;knife on 0 spring 60 lag 0;";
        due("2, 3, 4, 5 teeth", Check.drumOf(text + "pawl on 0 at 1 teeth 2;pawl on 0 at 1 teeth 3;pawl on 0 at 1 teeth 4;"
            + "pawl on 0 at 9 teeth 5;", 8).same(), 60);
        due("the last one never goes on", Check.drumOf(text + "pawl on 0 at 1 teeth 2;pawl on 0 at 1 teeth 3;pawl on 0 at 1 teeth 4;"
            + "pawl on 0 at 10 teeth 5;", 8).same(), 12);
        // Four clicks a turn: 27, 7, 29 and 15 turns are together too many.
        due("27 .. 30 teeth", Check.drumOf(full(), 46).same(), -1);
    }

    /** Some 500 calls after it was made an object answers as at first. */
    private static void lastCall() {
        NoseDrum x = new NoseDrum();
        Check.tell(x, Twin.WHOLE);
        x.drum();
        for (int i = 0; i < 240; i++) {
            x.turn(i % 2 == 0 ? 9 : -9);
            x.keep(i % 3);
        }
        x.back(0);
        due("lift", x.lift(0, 2), 6);
        due("steady", x.steady(0, 4), 5);
        due("count", x.count(5), 10);
    }
}
