/**
 * Long runs of calls on one object, worked out by hand: what one call leaves is seen by the later ones. In two of them
 * calls of all promises follow each other.
 */
public final class StoryTest {
    public static void main(String[] args) throws ReflectiveOperationException {
        Story.whole("one drum", ONE_DRUM);
        Story.whole("many texts", MANY_TEXTS);
        Story.part("many steps", MANY_STEPS);
        Check.finish();
    }

    /*
     * Track 0 is 0 3 6 3 0 0 3 3, track 1 is 2 all round; the knife's lift is track 0, that of the roller
     * 2 5 6 5 2 2 3 3, of the lever 0 4 9 4 0 0 4 4. On its spring of 1 the knife goes by at 2 3 6 5 4 3 3 3.
     */
    private static final String ONE_DRUM = """
        # Nothing is there yet.
        count * = 0 0 0 0 0 0 0 0 0 0 0 0 -1
        fault * = 0 -1 -1
        turn 1 = -2
        stands * = 0 0 0 0 0 0 -1
        nearest = -2
        back 0 = -6
        keep 2 = 0
        tell up 1;
        count 6 = 5
        motion = -2
        count 6 = 0
        fault * = 0 -1
        tell drum steps 8 jam 61 slack 1;
        drum = -4
        fault * = 2 17
        count 6 = 28
        end 29 = -1
        end -1 = -1
        end 0 = 0
        tell drum steps 8 jam 4 slack 1;track;track;nose on 0 at 2 wide 1 high 6 steep 3;
        tell nose on 0 at 6 wide 2 high 3 steep 3;nose on 1 at 0 wide 8 high 2 steep 1;
        tell knife on 0 spring 1 lag 1;roller 1 on 0 spring 60 lag 0;flat 0 on 1 spring 2 lag 3;
        tell lever on 0 3 over 2;pawl on 3 at 5 teeth 3;gear 1 to 2;
        drum = 12
        fault * = 0 -1
        count * = 8 2 3 4 1 12 0 4 1 0 0 0
        # How it was told.
        profile 0 * = 0 3 6 3 0 0 3 3 -2
        profile 1 7 = 2
        profile 2 0 = -2
        lift 0 7 = 3
        lift 1 * = 2 5 6 5 2 2 3 3
        lift 2 5 = 2
        lift 3 * = 0 4 9 4 0 0 4 4
        steep * = 3 0 -2
        # The lever's lift goes up by 5 at once, which jams nothing.
        jams * = -1 -1 -1 2 -2
        covers 0 2 = 5
        covers 0 3 = 1
        steady 0 * = 2 3 6 5 4 3 3 3 -2
        steady 3 * = 3 4 9 7 6 4 4 4
        leaves * 0 = 4 0 0 4 -2
        leaves * 1 = 0 -1 -1 0 -2
        spring * = 3 3 1 -1 -2
        work = 9
        clicks * = 1 -2
        # The second drum is back with every other turn, the pawl with every third one.
        same = 6
        meet 0 1 = 0
        meet 0 2 = 0
        spare = 0
        # Six steps forth: the pawl's lever comes from 4 to 9 at the second.
        follower * 0 = 0 2 2 0
        step 1
        follower * 0 = 3 5 2 4
        follower 0 1 = 0
        stands * = 1 1 6 0 0 0
        pawl 0 = 0
        step 1
        follower * 0 = 6 6 2 9
        follower 0 1 = 3
        pawl 0 = 1
        step 1
        follower * 0 = 5 5 2 7
        follower 0 2 = 3
        turn 3 = 3
        follower * 0 = 3 3 2 4
        follower * 3 = 0 1 2 3
        stands * = 6 6 11 0 3 0
        keep 0 = 0
        # Back: one step of slack, then over the nose from behind.
        turn -1 = 1
        stands * = 6 7 11 0 3 0
        turn -1 = 1
        follower * 0 = 2 2 2 3
        follower * 1 = 3 2 2 3
        turn -3 = 3
        follower * 0 = 6 6 2 9
        stands * = 2 11 20 0 1 0
        pawl 0 = 2
        turn -3 = 3
        follower * 0 = 3 3 2 4
        stands * = -1 14 21 0 0 0
        turn -1 = 1
        stands * = -2 15 21 0 7 0
        # The first nose breaks, and is whole again when the knife stands at 1 ahead of it.
        breaks 0 1 = 0
        count 10 = 1
        lift 1 * = 2 0 0 0 0 2 3 3
        follower 0 0 = 3
        turn 4 = 4
        follower * 0 = 1 0 2 1
        stands * = 1 19 21 0 0 0
        breaks 0 0 = 1
        follower 0 2 = 3
        turn 5 = 0
        follower * 4 = 1 0 0 0
        stands * = 1 19 21 0 0 1
        turn -2 = 2
        follower * 0 = 0 2 2 0
        stands * = 0 21 23 0 0 1
        turn 3 = 3
        follower * 0 = 6 6 2 9
        stands * = 2 24 33 0 1 1
        pawl 0 = 0
        # Worn by 2 the track is 0 1 4 1 0 0 3 3 at once; the knife comes down with its spring alone.
        wear 0 2 = 0
        nose 0 * = 0 2 1 4 3 2 -2
        profile 0 * = 0 1 4 1 0 0 3 3
        follower * 0 = 6 6 2 9
        follower * 2 = 4 4 2 6
        step 1
        follower * 0 = 5 3 2 7
        wear 0 60 = 2
        nose 0 3 = 0
        nose 0 5 = 6
        spare = 1
        wear 0 0 = 6
        spare = 0
        # The image of the sixth step, from which it goes on as it went on then.
        back 1 = -6
        back 0 = 0
        stands * = 6 6 11 0 3 0
        pawl 0 = 1
        follower * 4 = 0 0 0 0
        turn -2 = 2
        follower * 0 = 2 2 2 3
        follower * 1 = 3 2 2 3
        # A motion over the lifts as they are: at step 4 the lever's is 0.
        rowAt 0 = -6
        cut 1 1 0 = -6
        hard 0 = -6
        tell up 2;up 4;times 2{down 2;}if 3 above 5{up 9;}hold 1;down 60;
        motion = 6
        rowAt * = 0 2 6 4 2 2 0 0 -2
        hard * = -1 3 -1
        cut 1 1 * = 0 1 3 3 2 1 0 0
        cut 2 1 * = 0 0 2 2 2 0 0 0
        cut 0 0 2 = 6
        cut 0 1 2 = -2
        brings 0 0 = -1
        brings 1 1 = 2
        brings 2 1 = 2
        widest * = -2 0 0 -2
        differs 0 = 0
        phase 0 = -1
        # The roller and the flat are 12 away, the knife and the lever more.
        nearest = 1
        keep 1 = 0
        # Without the second nose the roller goes by at 2 5 6 5 2 0 0 0, and the motion is that from step 5 on.
        breaks 1 1 = 0
        tell hold 2;up 2;up 3;up 1;down 1;down 3;
        motion = 7
        rowAt * = 0 0 0 2 5 6 5 2
        phase 1 = 5
        differs 1 = 0
        nearest = 1
        back 1 = 0
        rowAt 2 = 6
        count 10 = 0
        # What is heard of the knife at 4, and which faults let that be.
        heard 0 4 = 32
        heard 0 3 = 1
        heard 3 5 = 32
        row 0 0 1 = 0
        write 0 0 5 = 0
        faults 0 4 0 = 8
        guess 0 4 0 * = 6 6 1 1
        write 0 0 4 = 0
        faults 0 4 0 = 1
        guess 0 4 0 * = 0 1 0 1
        write 0 0 3 = 0
        faults 0 4 0 = 1
        guess 0 4 0 3 = 2
        write 0 0 8 = 0
        faults 0 4 0 = -2
        faults 0 4 1 = -6
        row 1 2 0 = 0
        faults 0 4 1 = 5
        guess 0 4 1 * = 1 1 0 3
        margin 0 0 4 = 0
        margin 1 0 4 = 3
        margin 2 0 4 = 2
        margin 1 0 3 = 0
        # Draws from 0 on: 0 68 88, 17 98 27, 45 41 22.
        until 0 4 0 3 30 = 1
        until 0 4 0 3 0 = -1
        until 2 2 0 3 30 = -1
        years 0 3 30 = 4
        nose * 5 = 2 0 2
        profile 1 4 = 0
        spare = 4
        heard 0 4 = 8
        back 1 = 0
        nose * 5 = 0 0 0
        # Motions of 5, 4, 3 and 4 steps share two tracks of 8.
        row 2 3 4 = 0
        write 2 0 5 = 0
        write 2 1 4 = 0
        write 2 2 3 = 0
        paste 2 1 2 3 1 = 0
        fewest 2 = 2
        place 2 * = 0 1 0 1 -2
        clash 2 = 2
        paste 2 0 0 0 1 = -8
        paste 2 0 3 0 1 = -6
        paste 2 2 2 0 3 = -7
        count 11 = 3
        # There was no drum when the third image was kept; the rows stay.
        back 2 = 0
        count * = 0 0 0 0 0 0 0 0 0 0 0 3
        fewest 2 = -2
        back 0 = 0
        fewest 2 = 2
        count 9 = 0
        """;

    /*
     * Small drums, each told over what the last one left. The flat of 1 on a nose of 9 that falls by 4 has the lifts
     * 9 9 5 9 of four steps, and goes by at 9 9 7 9.
     */
    private static final String MANY_TEXTS = """
        # A text that breaks off stays on the tape and is gone on with.
        tell drum steps 4 jam 60 slack 0;track
        drum = -4
        fault * = 1 33
        count 6 = 33
        count 5 = 0
        tell ;nose on 1
        drum = -4
        fault * = 2 42
        end 42 = 42
        tell 0 at 0 wide 1 high 9 steep 4;flat 1 on 0 spring 2 lag 0;
        drum = 4
        fault * = 0 -1
        end 1 = -1
        profile 0 * = 9 5 1 5
        lift 0 * = 9 9 5 9
        steady 0 * = 9 9 7 9
        steep 0 = 4
        jams 0 = -1
        covers 0 4 = 3
        leaves 0 0 = 1
        leaves 0 1 = 2
        spring 0 = 4
        work = 2
        same = 1
        heard 0 8 = 4
        heard 0 7 = 0
        pawl 0 = -2
        clicks 0 = -2
        meet 0 0 = -2
        spare = 0
        # A motion; texts with faults leave it, and stay on the tape.
        tell up 9;times 3{hold 60;}
        motion = 3
        rowAt * = 0 9 9 9 -2
        tell up 9;if 1 above 3{}
        motion = -4
        fault * = 2 8
        rowAt * = 0 9 9 9
        end 5 = 5
        tell if 0 above 3{up 1
        motion = -4
        fault * = 1 22
        count 6 = 22
        tell ;}
        motion = 2
        rowAt * = 0 9 10 10
        tell times 2{times 2{times 2{times 2{times 2{times 2{
        motion = -4
        fault * = 3 47
        end 47 = 47
        motion = -4
        fault * = 1 47
        end 40 = 40
        tell }}}}}
        motion = 0
        fault * = 0 -1
        rowAt * = 0 0 0 0
        hard 0 = -1
        hard 1 = -1
        brings 1 9 = -1
        widest * = -2 9 9 -2
        cut 2 3 1 = 0
        # The tape that a fault left is no motion's.
        tell up 61;
        motion = -4
        fault * = 2 3
        drum = -4
        fault * = 1 0
        count 0 = 4
        count 9 = 1
        end 0 = 0
        # Turned, worn and kept, then another drum is told: nothing of the first is left but its image.
        turn 2 = 2
        follower 0 0 = 7
        follower 0 1 = 7
        follower 0 2 = 5
        wear 0 3 = 0
        nose 0 3 = 6
        stands * = 2 2 0 0 2 0
        row 3 0 2 = 0
        write 3 0 2 = 0
        write 3 1 2 = 0
        heard 0 9 = 0
        faults 0 9 3 = 1
        guess 0 9 3 * = 0 0 1 0
        keep 1 = 0
        tell drum steps 5 jam 1 slack 9;track;track;nose on 1 at 4 wide 2 high 2 steep 1;nose on 1 at 0 wide 1 high 1 steep 60;
        tell knife on 1 spring 1 lag 0;lever on 0 9 over 1;pawl on 1 at 18 teeth 2;
        drum = 8
        count * = 5 2 2 2 1 8 0 1 9 0 0 1
        stands * = 0 0 0 0 0 0
        nose * 5 = 0 0
        # The second nose is hidden by the first, as wide as 4 and 0.
        profile 1 * = 2 1 0 1 2
        spare = 2
        meet 0 1 = 1
        breaks 0 1 = 0
        spare = 1
        meet 0 1 = 0
        breaks 0 0 = 1
        wear 1 60 = 0
        nose 1 5 = 1
        nearest = -6
        differs 0 = -6
        phase 0 = -6
        follower * 0 = 2 18
        turn 600 = 600
        # Each of the 120 turns clicks once, as the lever comes from 9 to 18 at step 4.
        pawl 0 = 0
        clicks 0 = 1
        same = 2
        stands * = 600 600 240 0 0 0
        step 4
        pawl 0 = 1
        stands * = 604 604 242 0 4 0
        # Nine steps of slack, one at a time, then back over the nose.
        step -4
        stands * = 604 608 242 5 4 0
        keep 2 = 0
        step -5
        stands * = 604 613 242 0 4 0
        turn -1 = 1
        stands * = 603 614 242 0 3 0
        follower * 0 = 1 9
        turn -3 = 3
        stands * = 600 617 244 0 0 0
        pawl 0 = 0
        # The image in the slack: five steps are left of it.
        back 2 = 0
        stands * = 604 608 242 5 4 0
        pawl 0 = 1
        turn -6 = 6
        stands * = 603 614 242 0 3 0
        # Over to the first drum with its motion, wear and turns, and back.
        back 1 = 0
        count * = 4 1 1 1 0 4 0 60 0 1 0 1
        stands * = 2 2 0 0 2 0
        nose 0 5 = 3
        rowAt 3 = 0
        follower 0 0 = 7
        turn 1 = 1
        # Worn, the track is 6 2 0 2 and the flat's lift 6 6 2 6.
        follower 0 0 = 6
        steady 0 * = 6 6 4 6
        phase 0 = -1
        nearest = 0
        margin 0 0 9 = 0
        until 0 6 7 60 100 = 1
        years 7 60 100 = 6
        nose 0 * = 0 0 1 0 4 9
        years 7 60 100 = 0
        back 2 = 0
        count 0 = 5
        keep 1 = 0
        back 1 = 0
        count 0 = 5
        # An empty text takes the drum's place; the images stay.
        drum = 0
        count * = 0 0 0 0 0 0 0 0 0 0 0 1
        turn 1 = -2
        tell up 1;
        motion = -2
        count 6 = 0
        fault * = 0 -1
        place 3 0 = -2
        clash 3 = -2
        back 1 = 0
        count 0 = 5
        fewest 3 = 1
        place 3 * = 0 0 -2
        clash 3 = 1
        write 3 0 4 = 0
        fewest 3 = 2
        place 3 * = 0 1
        clash 3 = 2
        paste 3 0 3 1 1 = 0
        fewest 3 = 2
        clash 3 = 2
        row 3 0 -1 = -3
        clash 3 = 2
        row 3 0 61 = -2
        row 3 1 0 = 0
        clash 3 = -6
        """;

    /*
     * The track is 3 5 5 3 1 1, so that on its spring of 2 the knife never leaves it, forth or back; the levers are at
     * 6 10 10 6 2 2 and 4 7 7 4 1 1. The second drum goes five steps for three.
     */
    private static final String MANY_STEPS = """
        tell drum steps 6 jam 3 slack 2;track;nose on 0 at 1 wide 2 high 5 steep 2;knife on 0 spring 2 lag 2;
        tell lever on 0 2 over 1;lever on 1 3 over 4;pawl on 0 at 5 teeth 2;pawl on 2 at 3 teeth 4;gear 5 to 3;
        drum = 9
        follower * 0 = 3 6 4
        follower * 1 = 3 6 4
        same = 12
        step 1
        follower * 0 = 5 10 7
        follower * 1 = 3 10 7
        stands * = 1 1 2 0 1 0
        pawl * = 1 0
        step 1
        follower * 0 = 5 10 7
        follower * 1 = 3 10 7
        stands * = 2 2 2 0 3 0
        pawl * = 1 0
        step 1
        follower * 0 = 3 6 4
        follower * 1 = 5 6 4
        stands * = 3 3 2 0 5 0
        pawl * = 1 0
        step 1
        follower * 0 = 1 2 1
        follower * 1 = 5 2 1
        stands * = 4 4 2 0 0 0
        pawl * = 1 0
        step 1
        follower * 0 = 1 2 1
        follower * 1 = 3 2 1
        stands * = 5 5 2 0 2 0
        pawl * = 1 0
        step 1
        follower * 0 = 3 6 4
        follower * 1 = 1 6 4
        stands * = 6 6 4 0 4 0
        pawl * = 1 1
        step 1
        follower * 0 = 5 10 7
        follower * 1 = 1 10 7
        stands * = 7 7 6 0 5 0
        pawl * = 0 1
        step 6
        follower * 0 = 5 10 7
        follower * 1 = 1 10 7
        stands * = 13 13 10 0 3 0
        pawl * = 1 2
        # Back: two steps of slack.
        step -1
        stands * = 13 14 10 1 3 0
        follower * 1 = 1 10 7
        step -1
        stands * = 13 15 10 0 3 0
        follower * 0 = 5 10 7
        step -1
        stands * = 12 16 10 0 2 0
        follower * 0 = 3 6 4
        follower * 1 = 3 6 4
        step -1
        stands * = 11 17 10 0 0 0
        follower * 0 = 1 2 1
        follower * 1 = 5 2 1
        # Forth again: two of slack, one that turns.
        turn 3 = 3
        stands * = 12 20 12 0 2 0
        follower * 0 = 3 6 4
        follower * 1 = 3 6 4
        pawl * = 1 3
        step 1
        stands * = 13 21 14 0 3 0
        follower * 1 = 1 10 7
        pawl * = 0 3
        # A hundred turns forth; back 598 steps behind the slack.
        turn 600 = 600
        stands * = 613 621 414 0 1 0
        pawl * = 0 3
        keep 0 = 0
        turn -600 = 600
        stands * = 15 1221 812 0 1 0
        pawl * = 1 3
        follower * 0 = 3 6 4
        follower * 1 = 1 6 4
        # Worn by 3 the track is 0 2 2 0 0 0.
        wear 0 3 = 0
        lift 0 * = 0 2 2 0 0 0
        lift 2 * = 0 3 3 0 0 0
        follower * 0 = 3 6 4
        step -1
        follower * 0 = 2 4 3
        follower * 1 = 1 4 3
        step -1
        follower * 0 = 2 4 3
        follower * 1 = 3 4 3
        step -1
        follower * 0 = 0 0 0
        follower * 1 = 2 0 0
        stands * = 12 1224 812 0 2 0
        step -3
        follower * 0 = 0 0 0
        stands * = 9 1227 812 0 3 0
        step -1
        follower * 0 = 2 4 3
        stands * = 8 1228 814 0 1 0
        pawl * = 1 0
        step -2
        follower * 0 = 0 0 0
        stands * = 6 1230 814 0 4 0
        # As high as told again: step 5 behind it has 1, step 0 where it is 3, and step 1 ahead, 5, is too much.
        wear 0 0 = 3
        follower * 0 = 0 0 0
        follower * 2 = 3 6 4
        turn 2 = 2
        stands * = 6 1232 814 0 4 0
        turn 1 = 0
        stands * = 6 1232 814 0 4 1
        follower * 4 = 1 0 0
        turn 600 = 0
        stands 5 = 2
        turn -2 = 2
        stands * = 6 1234 814 0 4 2
        turn -1 = 1
        follower * 0 = 1 2 1
        stands * = 5 1235 815 0 2 2
        pawl * = 1 0
        turn -1 = 1
        follower * 0 = 1 2 1
        turn -2 = 2
        follower * 0 = 5 10 7
        stands * = 2 1238 819 0 3 2
        pawl * = 0 1
        # Over zero: the second drum's angle is cut towards 0.
        step -1
        stands 4 = 1
        step -1
        stands 4 = 0
        step -1
        stands * = -1 1241 819 0 5 2
        step -1
        stands * = -2 1242 819 0 3 2
        back 0 = 0
        stands * = 613 621 414 0 1 0
        pawl * = 0 3
        follower * 0 = 5 10 7
        follower * 1 = 1 10 7
        nose 0 5 = 0
        turn -3 = 3
        follower * 0 = 3 6 4
        follower * 1 = 3 6 4
        stands * = 612 624 414 0 0 0
        """;
}
