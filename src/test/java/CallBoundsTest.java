/** Promises 7 to 49: of each number of a call the last ones that are taken and the first ones that are refused. */
public final class CallBoundsTest {
    public static void main(String[] args) {
        everyCall(4, 1, 1, 1, 1);
        everyCall(12, 2, 2, 3, 2);
        everyCall(60, 6, 24, 10, 4);
        slots();
        rowNumbers();
        images();
        pastes();
        turns();
        Check.finish();
    }

    private static String drum(int steps, int tracks, int noses, int followers, int pawls) {
        String text = "drum steps " + steps + " jam 60 slack 0;" + "track;".repeat(tracks);
        text += ("nose on " + (tracks - 1) + " at 1 wide 1 high 9 steep 9;").repeat(noses);
        text += ("knife on " + (tracks - 1) + " spring 9 lag 0;").repeat(followers);
        return text + ("pawl on " + (followers - 1) + " at 5 teeth 9;").repeat(pawls);
    }

    private static void everyCall(int steps, int tracks, int noses, int followers, int pawls) {
        NoseDrum x = Check.drumOf(drum(steps, tracks, noses, followers, pawls), 1 + tracks + noses + followers + pawls);
        ofTracks(x, tracks, steps - 1);
        ofFollowers(x, followers - 1, steps - 1);
        Check.bounds("pawl", x::pawl, 0, pawls - 1, -2);
        Check.bounds("clicks", x::clicks, 0, pawls - 1, -2);
        ofNoses(x, noses - 1, followers - 1);
        years(x, followers - 1);
        Check.bounds("stands", x::stands, 0, 5, -1);
        Check.bounds("count", x::count, 0, 11, -1);
        // Without a motion the number is asked first, then the motion.
        Check.due("rowAt of no step, no motion", x.rowAt(steps), -2);
        Check.due("rowAt, no motion", x.rowAt(steps - 1), -6);
        Check.motionOf(x, "up 9;down 9;", 2);
        ofMotion(x, steps - 1);
        Check.bounds("differs", x::differs, 0, followers - 1, -2);
        Check.bounds("phase", x::phase, 0, followers - 1, -2);
        ofSlots(x, followers - 1);
    }

    private static void ofTracks(NoseDrum x, int tracks, int last) {
        Check.bounds("profile of a track", v -> x.profile(v, 0), 0, tracks - 1, -2);
        Check.bounds("profile of a track, last step", v -> x.profile(v, last), 0, tracks - 1, -2);
        Check.bounds("profile at a step", v -> x.profile(0, v), 0, last, -2);
        Check.bounds("profile at a step, last track", v -> x.profile(tracks - 1, v), 0, last, -2);
        Check.bounds("steep", x::steep, 0, tracks - 1, -2);
        Check.bounds("covers of a track", v -> x.covers(v, 0), 0, tracks - 1, -2);
        Check.bounds("covers of a track, 60", v -> x.covers(v, 60), 0, tracks - 1, -2);
        Check.bounds("covers above n", v -> x.covers(0, v), 0, 60, -2);
    }

    private static void ofFollowers(NoseDrum x, int most, int last) {
        Check.bounds("lift of a follower", v -> x.lift(v, 0), 0, most, -2);
        Check.bounds("lift at a step", v -> x.lift(most, v), 0, last, -2);
        Check.bounds("jams", x::jams, 0, most, -2);
        Check.bounds("follower", v -> x.follower(v, 0), 0, most, -2);
        for (int what = 0; what <= 4; what++) {
            int of = what;
            Check.bounds("follower, what " + what, v -> x.follower(v, of), 0, most, -2);
        }
        Check.bounds("follower's what", v -> x.follower(most, v), 0, 4, -2);
        Check.bounds("steady of a follower", v -> x.steady(v, last), 0, most, -2);
        Check.bounds("steady at a step", v -> x.steady(0, v), 0, last, -2);
        Check.bounds("leaves of a follower", v -> x.leaves(v, 0), 0, most, -2);
        Check.bounds("leaves of a follower, first", v -> x.leaves(v, 1), 0, most, -2);
        Check.bounds("leaves' what", v -> x.leaves(most, v), 0, 1, -2);
        Check.bounds("spring", x::spring, 0, most, -2);
        Check.bounds("heard of a follower", v -> x.heard(v, 1), 0, most, -2);
        Check.bounds("heard at a height", v -> x.heard(0, v), 1, 99, -2);
        Check.bounds("heard at a height, last", v -> x.heard(most, v), 1, 99, -2);
    }

    private static void ofNoses(NoseDrum x, int most, int lastFollower) {
        Check.bounds("wear of a nose", v -> x.wear(v, 0), 0, most, -2);
        Check.bounds("wear by w", v -> x.wear(most, v), 0, 60, -2);
        Check.bounds("breaks", v -> x.breaks(v, true), 0, most, -2);
        Check.bounds("is whole", v -> x.breaks(v, false), 0, most, -2);
        for (int what = 0; what <= 5; what++) {
            int of = what;
            Check.bounds("nose, what " + what, v -> x.nose(v, of), 0, most, -2);
        }
        Check.bounds("nose's what", v -> x.nose(most, v), 0, 5, -2);
        if (most > 0) {
            Check.bounds("meet of one", v -> x.meet(v, 0), 1, most, -2);
            Check.bounds("meet of the other", v -> x.meet(0, v), 1, most, -2);
            Check.bounds("meet of one with the last", v -> x.meet(v, most), 0, most - 1, -2);
            Check.bounds("meet of the last with another", v -> x.meet(most, v), 0, most - 1, -2);
        } else {
            Check.due("meet of the only one", x.meet(0, 0), -2);
            Check.due("meet with none", x.meet(0, 1), -2);
        }
        Check.bounds("margin of a nose", v -> x.margin(v, 0, 1), 0, most, -2);
        Check.bounds("margin of a follower", v -> x.margin(0, v, 99), 0, lastFollower, -2);
        Check.bounds("margin at a height", v -> x.margin(most, lastFollower, v), 1, 99, -2);
    }

    private static void years(NoseDrum x, int most) {
        Check.bounds("years' seed", v -> x.years(v, 1, 0), 0, 2000000000, -2);
        Check.bounds("years' n", v -> x.years(0, v, 0), 1, 60, -2);
        Check.bounds("years' odds", v -> x.years(2000000000, 60, v), 0, 100, -2);
        Check.bounds("until's follower", v -> x.until(v, 1, 0, 1, 0), 0, most, -2);
        Check.bounds("until's height", v -> x.until(0, v, 0, 1, 0), 1, 99, -2);
        Check.bounds("until's seed", v -> x.until(0, 1, v, 1, 0), 0, 2000000000, -2);
        Check.bounds("until's n", v -> x.until(0, 1, 0, v, 0), 1, 60, -2);
        Check.bounds("until's odds", v -> x.until(most, 99, 2000000000, 60, v), 0, 100, -2);
    }

    private static void ofMotion(NoseDrum x, int last) {
        Check.bounds("rowAt", x::rowAt, 0, last, -2);
        Check.bounds("cut's sort, N 0", v -> x.cut(v, 0, 0), 0, 2, -2);
        Check.bounds("cut's sort, N 1", v -> x.cut(v, 1, 0), 1, 2, -2);
        Check.bounds("cut's N of a knife", v -> x.cut(0, v, 0), 0, 0, -2);
        Check.bounds("cut's N of a roller", v -> x.cut(1, v, 0), 0, 9, -2);
        Check.bounds("cut's N of a flat", v -> x.cut(2, v, last), 0, 9, -2);
        for (int sort = 0; sort <= 2; sort++) {
            int of = sort;
            Check.bounds("cut at a step, sort " + sort, v -> x.cut(of, 0, v), 0, last, -2);
        }
        Check.bounds("brings' sort, N 0", v -> x.brings(v, 0), 0, 2, -2);
        Check.bounds("brings' sort, N 9", v -> x.brings(v, 9), 1, 2, -2);
        Check.bounds("brings' N of a knife", v -> x.brings(0, v), 0, 0, -2);
        Check.bounds("brings' N of a roller", v -> x.brings(1, v), 0, 9, -2);
        Check.bounds("brings' N of a flat", v -> x.brings(2, v), 0, 9, -2);
        Check.bounds("widest's sort", x::widest, 1, 2, -2);
        Check.bounds("hard's what", x::hard, 0, 60, -2);
    }

    private static void ofSlots(NoseDrum x, int most) {
        for (int slot = 0; slot < 4; slot++) {
            Check.numbers(x, slot, slot, 1, 2, 3);
        }
        Check.bounds("fewest", x::fewest, 0, 3, -2);
        Check.bounds("clash", x::clash, 0, 3, -2);
        Check.bounds("place of a slot", v -> x.place(v, 0), 0, 3, -2);
        for (int slot = 0; slot < 4; slot++) {
            int of = slot;
            Check.bounds("place of a motion, slot " + slot, v -> x.place(of, v), 0, 2, -2);
        }
        Check.bounds("faults of a follower", v -> x.faults(v, 1, 0), 0, most, -2);
        Check.bounds("faults at a height", v -> x.faults(0, v, 0), 1, 99, -2);
        Check.bounds("faults of a slot", v -> x.faults(most, 99, v), 0, 3, -2);
        Check.bounds("guess of a follower", v -> x.guess(v, 1, 0, 0), 0, most, -2);
        Check.bounds("guess at a height", v -> x.guess(0, v, 0, 1), 1, 99, -2);
        Check.bounds("guess of a slot", v -> x.guess(most, 99, v, 2), 0, 3, -2);
        for (int slot = 0; slot < 4; slot++) {
            int of = slot;
            Check.bounds("guess's what", v -> x.guess(0, 1, of, v), 0, 3, -2);
        }
    }

    private static void slots() {
        NoseDrum x = new NoseDrum();
        Check.bounds("row's slot", v -> x.row(v, 0, 0), 0, 3, -2);
        Check.bounds("row's slot, 60 numbers", v -> x.row(v, 3, 60), 0, 3, -2);
        for (int slot = 0; slot < 4; slot++) {
            int of = slot;
            Check.bounds("row's width, slot " + slot, v -> x.row(of, v, 1), 0, 3, -2);
            Check.bounds("row's width, slot " + slot + ", no numbers", v -> x.row(of, v, 0), 0, 3, -2);
            for (int width = 0; width < 4; width++) {
                Check.due("row of 0", x.row(slot, width, 0), 0);
                Check.due("row of 1", x.row(slot, width, 1), 0);
                Check.due("row of 60", x.row(slot, width, 60), 0);
                Check.due("row of 61", x.row(slot, width, 61), -2);
                Check.due("row of the most", x.row(slot, width, Integer.MAX_VALUE), -2);
                Check.due("row of -1", x.row(slot, width, -1), -3);
                Check.due("row of the least", x.row(slot, width, Integer.MIN_VALUE), -3);
            }
        }
        for (int slot = 0; slot < 4; slot++) {
            Check.due("the last row of 60 is there", x.write(slot, 59, 1), 0);
        }
        Check.bounds("write's slot", v -> x.write(v, 0, 1), 0, 3, -2);
        for (int n : new int[] {1, 2, 8, 59, 60}) {
            x.row(1, 2, n);
            Check.bounds("write's number of " + n, v -> x.write(1, v, 1), 0, n - 1, -7);
        }
        x.row(1, 2, 0);
        for (int i : new int[] {-1, 0, 1, Integer.MIN_VALUE, Integer.MAX_VALUE}) {
            Check.due("write of a row of none, " + i, x.write(1, i, 1), -7);
        }
    }

    /** Numbers that a row may have: motions' steps 1 .. steps, 1 .. 8 of them; steps that are heard 0 .. steps less 1. */
    private static void rowNumbers() {
        for (int steps : new int[] {4, 12, 60}) {
            NoseDrum x = Check.drumOf(drum(steps, 1, 1, 1, 1), 5);
            for (int width = 1; width < 4; width++) {
                // Below and above go on as far as the width goes, so that what is cut stays beyond the bounds.
                int of = width;
                x.row(0, of, 3);
                for (int at = 0; at < 3; at++) {
                    int i = at;
                    Check.numbers(x, 0, of, 1, 1, 1);
                    for (int v : new int[] {1, steps}) {
                        x.write(0, i, v);
                        Check.due("fewest with " + v, x.fewest(0) >= 1 ? 1 : 0, 1);
                        Check.due("place with " + v, x.place(0, 2) >= 0 ? 1 : 0, 1);
                        Check.due("clash with " + v, x.clash(0) >= 1 ? 1 : 0, 1);
                    }
                    for (int v : new int[] {0, -1, steps + 1, -32768, 32767}) {
                        x.write(0, i, v);
                        Check.due("fewest with " + v, x.fewest(0), -2);
                        Check.due("place with " + v, x.place(0, 0), -2);
                        Check.due("clash with " + v, x.clash(0), -2);
                    }
                    for (int v : new int[] {0, steps - 1}) {
                        x.write(0, i, v);
                        Check.due("faults with " + v, x.faults(0, 1, 0) >= 0 ? 1 : 0, 1);
                        Check.due("guess with " + v, x.guess(0, 1, 0, 0) >= 0 ? 1 : 0, 1);
                    }
                    for (int v : new int[] {-1, steps, -32768, 32767}) {
                        x.write(0, i, v);
                        Check.due("faults with " + v, x.faults(0, 1, 0), -2);
                        Check.due("guess with " + v, x.guess(0, 1, 0, 3), -2);
                    }
                }
            }
            for (int n = 1; n <= 60; n++) {
                x.row(0, 0, n);
                for (int i = 0; i < n; i++) {
                    x.write(0, i, 1);
                }
                Check.due("fewest of " + n, x.fewest(0), n > 8 ? -2 : n > steps ? 2 : 1);
                Check.due("place of " + n, x.place(0, 0), n > 8 ? -2 : 0);
                Check.due("clash of " + n, x.clash(0), n > 8 ? -2 : 1);
                Check.due("faults of " + n, x.faults(0, 1, 0) >= 0 ? 1 : 0, 1);
            }
            x.row(0, 0, 0);
            Check.due("fewest of 0", x.fewest(0), -6);
            Check.due("place of 0", x.place(0, 0), -6);
            Check.due("clash of 0", x.clash(0), -6);
        }
    }

    private static void images() {
        NoseDrum x = new NoseDrum();
        for (int k = 0; k < 3; k++) {
            Check.due("back(" + k + ") of nothing", x.back(k), -6);
        }
        Check.bounds("keep", x::keep, 0, 2, -2);
        Check.due("back(0)", x.back(0), 0);
        Check.due("back(1) of nothing", x.back(1), -6);
        Check.due("back(2)", x.back(2), 0);
        x.keep(1);
        Check.bounds("back", x::back, 0, 2, -2);
    }

    private static void pastes() {
        NoseDrum x = new NoseDrum();
        for (int slot = 0; slot < 4; slot++) {
            x.row(slot, 1, 10);
        }
        Check.bounds("paste from a slot", v -> x.paste(v, 0, 0, 0, 1), 0, 3, -2);
        Check.bounds("paste to a slot", v -> x.paste(0, 0, v, 0, 1), 0, 3, -2);
        x.row(1, 1, 7);
        // Ten numbers here, seven there.
        for (int n = 0; n <= 7; n++) {
            int many = n;
            Check.bounds("paste from one on, " + n, v -> x.paste(0, v, 1, 0, many), 0, 10 - n, -7);
            Check.bounds("paste to one on, " + n, v -> x.paste(0, 0, 1, v, many), 0, 7 - n, -7);
            Check.bounds("paste within, from, " + n, v -> x.paste(1, v, 1, 0, many), 0, 7 - n, -7);
            Check.bounds("paste within, to, " + n, v -> x.paste(1, 0, 1, v, many), 0, 7 - n, -7);
        }
        Check.bounds("paste of n, the other's end", v -> x.paste(0, 0, 1, 0, v), 0, 7, -7);
        Check.bounds("paste of n, its own end", v -> x.paste(0, 5, 1, 0, v), 0, 5, -7);
        Check.bounds("paste of n, the other's end", v -> x.paste(0, 0, 1, 5, v), 0, 2, -7);
        Check.bounds("paste of n into itself", v -> x.paste(0, 3, 0, 4, v), 0, 6, -7);
        x.row(2, 1, 0);
        Check.due("paste of none from a row of none", x.paste(2, 0, 0, 10, 0), 0);
        Check.due("paste of none to a row of none", x.paste(0, 10, 2, 0, 0), 0);
        Check.due("paste of none within a row of none", x.paste(2, 0, 2, 0, 0), 0);
        Check.due("paste of one from a row of none", x.paste(2, 0, 0, 0, 1), -7);
        Check.due("paste of one to a row of none", x.paste(0, 0, 2, 0, 1), -7);
        Check.due("paste of none behind a row of none", x.paste(2, 1, 0, 0, 0), -7);
        x.row(0, 3, 60);
        x.row(1, 3, 60);
        Check.bounds("paste of 60", v -> x.paste(0, 0, 1, 0, v), 0, 60, -7);
        Check.bounds("paste of the last", v -> x.paste(0, v, 1, v, 1), 0, 59, -7);
    }

    private static void turns() {
        for (int slack : new int[] {0, 9}) {
            NoseDrum x = Check.drumOf("drum steps 4 jam 60 slack " + slack + ";", 1);
            Check.bounds("turn", x::turn, -600, 600, -2);
            // -600, 600, -600: slack is taken up twice.
            Check.due("angle", x.stands(0), -600 + 600 - slack - 600 + slack);
            Check.due("taken", x.stands(1), 1800);
            Check.due("slack left", x.stands(3), 0);
            Check.due("turn(600)", x.turn(600), 600);
            Check.due("turn(-600)", x.turn(-600), 600);
            Check.due("turn(599)", x.turn(599), 599);
            Check.due("turn(-599)", x.turn(-599), 599);
            Check.due("turn(0)", x.turn(0), 0);
        }
    }
}
