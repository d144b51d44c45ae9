/**
 * A drum with noses, its followers, pawls and second drum, told as a text and turned step by step.
 *
 * Every row is made in a constructor and used again, so that no call makes an object.
 */
public final class NoseDrum {
    public static final int NONE = -1;

    private static final int NO_SUCH = -2;
    private static final int BELOW_ZERO = -3;
    private static final int FAULTY = -4;
    private static final int NOTHING = -6;
    private static final int NO_NUMBER = -7;
    private static final int UNLIKE = -8;

    private static final int MOST_STEPS = 60;
    private static final int MOST_TRACKS = 6;
    private static final int MOST_NOSES = 24;
    private static final int MOST_FOLLOWERS = 10;
    private static final int MOST_PAWLS = 4;
    private static final int MOST_HIGH = 60;
    private static final int MOST_SIZE = 9;
    private static final int MOST_LAG = 20;
    private static final int MOST_LEVER = 9999;
    private static final int MOST_HEARD_HEIGHT = 99;
    private static final int MOST_TURNED = 600;
    private static final int MOST_TURNS = 9999;
    private static final int MOST_YEARS = 60;
    private static final int MOST_SEED = 2000000000;
    private static final int SLOTS = 4;
    private static final int IMAGES = 3;

    private static final int KNIFE = 0;
    private static final int ROLLER = 1;
    private static final int FLAT = 2;
    private static final int LEVER = 3;

    private final Tape tape;
    private final Program program;
    private final Curves curves;
    private final Suspects suspects;
    private final Slots slots;
    private final Room room;
    private final Machine[] images;
    private final boolean[] kept;
    private Machine now;
    private Machine told;

    public NoseDrum() {
        tape = new Tape();
        program = new Program();
        curves = new Curves();
        suspects = new Suspects();
        slots = new Slots();
        room = new Room();
        images = new Machine[IMAGES];
        kept = new boolean[IMAGES];
        for (int k = 0; k < IMAGES; k++) {
            images[k] = new Machine();
        }
        now = new Machine();
        told = new Machine();
    }

    // ---- the tape and what it tells

    public int feed(int a, int b, int c, int d, int e) {
        if (!tape.hasRoom()) {
            return NONE;
        }
        tape.put(a);
        tape.put(b);
        tape.put(c);
        tape.put(d);
        tape.put(e);
        return tape.length;
    }

    public int end(int n) {
        if (n < 0 || n > tape.length) {
            return NONE;
        }
        tape.length = n;
        return n;
    }

    public int drum() {
        told.clear();
        tape.beginReading();
        told.readFrom(tape);
        if (tape.fault != 0) {
            return FAULTY;
        }
        curves.fillTable(told);
        told.begin(curves);
        Machine old = now;
        now = told;
        told = old;
        tape.length = 0;
        return now.lines;
    }

    public int motion() {
        if (!now.isTold()) {
            tape.length = 0;
            return NO_SUCH;
        }
        tape.beginReading();
        program.readFrom(tape, now.followers.count);
        if (tape.fault != 0) {
            return FAULTY;
        }
        tape.length = 0;
        curves.fillTable(now);
        now.hasMotion = true;
        return program.fillRow(now, curves);
    }

    public int fault(int what) {
        if (what == 0) {
            return tape.fault;
        }
        return what == 1 ? tape.place : NONE;
    }

    // ---- profiles and lifts

    public int profile(int track, int step) {
        if (!now.hasTrack(track) || !now.hasStep(step)) {
            return NO_SUCH;
        }
        curves.fillProfileAsNow(now, track);
        return curves.profile[step];
    }

    public int lift(int follower, int step) {
        if (!now.hasFollower(follower) || !now.hasStep(step)) {
            return NO_SUCH;
        }
        curves.fillAsNow(now, follower);
        return curves.lift[step];
    }

    public int steep(int track) {
        if (!now.hasTrack(track)) {
            return NO_SUCH;
        }
        curves.fillProfileAsNow(now, track);
        int greatest = 0;
        for (int s = 0; s < now.steps; s++) {
            greatest = Math.max(greatest, curves.profile[s] - curves.profile[now.round(s - 1)]);
        }
        return greatest;
    }

    public int jams(int follower) {
        if (!now.hasFollower(follower)) {
            return NO_SUCH;
        }
        curves.fillAsNow(now, follower);
        return firstRise(curves.lift, now.jam);
    }

    public int covers(int track, int n) {
        if (!now.hasTrack(track) || n < 0 || n > MOST_HIGH) {
            return NO_SUCH;
        }
        curves.fillProfileAsNow(now, track);
        int covered = 0;
        for (int s = 0; s < now.steps; s++) {
            if (curves.profile[s] > n) {
                covered++;
            }
        }
        return covered;
    }

    // ---- turning

    public int turn(int n) {
        if (!now.isTold() || n < -MOST_TURNED || n > MOST_TURNED) {
            return NO_SUCH;
        }
        curves.fillTable(now);
        int way = n < 0 ? -1 : 1;
        int many = Math.abs(n);
        for (int taken = 0; taken < many; taken++) {
            if (!now.takeStep(way, curves)) {
                return taken;
            }
        }
        return many;
    }

    public int follower(int follower, int what) {
        if (!now.hasFollower(follower)) {
            return NO_SUCH;
        }
        switch (what) {
            case 0:
                return now.followers.pos[follower];
            case 1:
                return now.followers.movedOf(follower, now.shaft.turned);
            case 2:
                curves.fillAsNow(now, follower);
                return curves.lift[now.round(now.shaft.angle)];
            case 3:
                return now.followers.sort[follower];
            case 4:
                return now.shaft.jammedBy == follower ? 1 : 0;
            default:
                return NO_SUCH;
        }
    }

    public int stands(int what) {
        switch (what) {
            case 0:
                return now.shaft.angle;
            case 1:
                return now.shaft.taken;
            case 2:
                return now.shaft.work;
            case 3:
                return now.shaft.slackLeft;
            case 4:
                return now.secondStep(now.shaft.angle);
            case 5:
                return now.shaft.jammed;
            default:
                return NONE;
        }
    }

    public int pawl(int pawl) {
        return now.hasPawl(pawl) ? now.pawls.tally[pawl] : NO_SUCH;
    }

    // ---- the steady turn

    public int steady(int follower, int step) {
        if (!now.hasFollower(follower) || !now.hasStep(step)) {
            return NO_SUCH;
        }
        curves.fillAsNow(now, follower);
        return curves.pos[step];
    }

    public int leaves(int follower, int what) {
        if (!now.hasFollower(follower) || what < 0 || what > 1) {
            return NO_SUCH;
        }
        curves.fillAsNow(now, follower);
        int left = 0;
        int first = NONE;
        for (int s = now.steps - 1; s >= 0; s--) {
            if (curves.pos[s] > curves.lift[s]) {
                left++;
                first = s;
            }
        }
        return what == 0 ? left : first;
    }

    public int spring(int follower) {
        if (!now.hasFollower(follower)) {
            return NO_SUCH;
        }
        if (now.followers.sort[follower] == LEVER) {
            return NONE;
        }
        curves.fillAsNow(now, follower);
        int greatest = 1;
        for (int s = 0; s < now.steps; s++) {
            greatest = Math.max(greatest, curves.lift[now.round(s - 1)] - curves.lift[s]);
        }
        return greatest;
    }

    public int work() {
        if (!now.isTold()) {
            return NO_SUCH;
        }
        int risen = 0;
        for (int f = 0; f < now.followers.count; f++) {
            if (now.followers.sort[f] != LEVER) {
                curves.fillAsNow(now, f);
                risen += curves.risenInTurn(now);
            }
        }
        return risen;
    }

    public int clicks(int pawl) {
        if (!now.hasPawl(pawl)) {
            return NO_SUCH;
        }
        curves.fillAsNow(now, now.pawls.on[pawl]);
        return curves.clicksInTurn(now, now.pawls.at[pawl]);
    }

    public int same() {
        if (!now.isTold()) {
            return NO_SUCH;
        }
        for (int p = 0; p < now.pawls.count; p++) {
            curves.fillAsNow(now, now.pawls.on[p]);
            curves.clicks[p] = curves.clicksInTurn(now, now.pawls.at[p]);
        }
        for (int turns = 1; turns <= MOST_TURNS; turns++) {
            if (now.secondStep(turns * now.steps) == 0 && now.pawls.areBack(curves.clicks, turns)) {
                return turns;
            }
        }
        return NONE;
    }

    // ---- noses

    public int wear(int nose, int w) {
        if (!now.hasNose(nose) || w < 0 || w > MOST_HIGH) {
            return NO_SUCH;
        }
        int was = now.noses.worn[nose];
        now.noses.worn[nose] = Math.min(w, now.noses.high[nose]);
        return was;
    }

    public int breaks(int nose, boolean is) {
        if (!now.hasNose(nose)) {
            return NO_SUCH;
        }
        boolean was = now.noses.broken[nose];
        now.noses.broken[nose] = is;
        return was ? 1 : 0;
    }

    public int nose(int nose, int what) {
        if (!now.hasNose(nose)) {
            return NO_SUCH;
        }
        switch (what) {
            case 0:
                return now.noses.track[nose];
            case 1:
                return now.noses.at[nose];
            case 2:
                return now.noses.wide[nose];
            case 3:
                return now.noses.heightOf(nose, now.noses.worn[nose]);
            case 4:
                return now.noses.steep[nose];
            case 5:
                return now.noses.worn[nose];
            default:
                return NO_SUCH;
        }
    }

    public int spare() {
        if (!now.isTold()) {
            return NO_SUCH;
        }
        curves.takeHeights(now.noses, now.noses.worn);
        int bits = 0;
        for (int i = 0; i < now.noses.count; i++) {
            if (curves.isSpare(now, i)) {
                bits |= 1 << i;
            }
        }
        return bits;
    }

    public int meet(int one, int other) {
        if (!now.hasNose(one) || !now.hasNose(other) || one == other) {
            return NO_SUCH;
        }
        if (now.noses.track[one] != now.noses.track[other]) {
            return 0;
        }
        curves.takeHeights(now.noses, now.noses.worn);
        return curves.doMeet(now, one, other) ? 1 : 0;
    }

    // ---- the motion's row

    public int rowAt(int step) {
        if (!now.hasStep(step)) {
            return NO_SUCH;
        }
        return now.hasMotion ? now.row[step] : NOTHING;
    }

    public int cut(int sort, int n, int step) {
        if (!now.hasStep(step) || !isCutter(sort, n)) {
            return NO_SUCH;
        }
        if (!now.hasMotion) {
            return NOTHING;
        }
        curves.fillCut(now, sort, n);
        return curves.profile[step];
    }

    public int brings(int sort, int n) {
        if (!now.isTold() || !isCutter(sort, n)) {
            return NO_SUCH;
        }
        return now.hasMotion ? firstNotBrought(sort, n) : NOTHING;
    }

    public int widest(int sort) {
        if (!now.isTold() || sort != ROLLER && sort != FLAT) {
            return NO_SUCH;
        }
        if (!now.hasMotion) {
            return NOTHING;
        }
        for (int n = MOST_SIZE; n >= 0; n--) {
            if (firstNotBrought(sort, n) == NONE) {
                return n;
            }
        }
        return NONE;
    }

    public int hard(int what) {
        if (!now.isTold() || what < 0 || what > MOST_HIGH) {
            return NO_SUCH;
        }
        if (!now.hasMotion) {
            return NOTHING;
        }
        return what == 0 ? firstRise(now.row, now.jam) : firstFall(now.row, what);
    }

    public int differs(int follower) {
        if (!now.hasFollower(follower)) {
            return NO_SUCH;
        }
        if (!now.hasMotion) {
            return NOTHING;
        }
        curves.fillAsNow(now, follower);
        return firstUnlike(now.row, curves.pos);
    }

    public int phase(int follower) {
        if (!now.hasFollower(follower)) {
            return NO_SUCH;
        }
        if (!now.hasMotion) {
            return NOTHING;
        }
        curves.fillAsNow(now, follower);
        for (int shift = 0; shift < now.steps; shift++) {
            if (curves.awayBy(now, shift) == 0) {
                return shift;
            }
        }
        return NONE;
    }

    public int nearest() {
        if (!now.isTold()) {
            return NO_SUCH;
        }
        if (!now.hasMotion) {
            return NOTHING;
        }
        int best = NONE;
        int least = 0;
        for (int f = 0; f < now.followers.count; f++) {
            curves.fillAsNow(now, f);
            int away = curves.leastAway(now);
            if (best == NONE || away < least) {
                best = f;
                least = away;
            }
        }
        return best;
    }

    // ---- room on tracks

    public int fewest(int slot) {
        int state = takeMotions(slot);
        return state != 0 ? state : room.fewestTracks(now.steps);
    }

    public int place(int slot, int i) {
        int state = takeMotions(slot);
        if (state != 0) {
            return state;
        }
        if (i < 0 || i >= room.count) {
            return NO_SUCH;
        }
        room.fewestTracks(now.steps);
        return room.track[i];
    }

    public int clash(int slot) {
        int state = takeMotions(slot);
        return state != 0 ? state : room.mostApart(now.steps);
    }

    // ---- what is heard

    public long heard(int follower, int height) {
        if (!now.hasFollower(follower) || !isHeardHeight(height)) {
            return NO_SUCH;
        }
        curves.fillAsNow(now, follower);
        return curves.bitsHeard(now, height);
    }

    public int faults(int follower, int height, int slot) {
        int state = searchFaults(follower, height, slot);
        return state != 0 ? state : suspects.many;
    }

    public int guess(int follower, int height, int slot, int what) {
        if (what < 0 || what > 3) {
            return NO_SUCH;
        }
        int state = searchFaults(follower, height, slot);
        if (state != 0) {
            return state;
        }
        switch (what) {
            case 0:
                return suspects.brokenBits;
            case 1:
                return suspects.wornBits;
            case 2:
                return suspects.nothingIs ? 1 : 0;
            default:
                return suspects.leastWear;
        }
    }

    public int margin(int nose, int follower, int height) {
        if (!now.hasNose(nose) || !now.hasFollower(follower) || !isHeardHeight(height)) {
            return NO_SUCH;
        }
        curves.takeHeights(now.noses, now.noses.worn);
        curves.heights[nose] = now.noses.heightOf(nose, 0);
        curves.fill(now, follower);
        long unworn = curves.bitsHeard(now, height);
        int high = now.noses.high[nose];
        for (int w = 1; w <= high; w++) {
            curves.heights[nose] = now.noses.heightOf(nose, w);
            curves.fill(now, follower);
            if (curves.bitsHeard(now, height) != unworn) {
                return w - 1;
            }
        }
        return high;
    }

    // ---- years

    public int years(int seed, int n, int odds) {
        if (!now.isTold() || !areYears(seed, n, odds)) {
            return NO_SUCH;
        }
        int before = now.noses.wornTogether();
        long x = seed;
        for (int y = 0; y < n; y++) {
            x = now.noses.passYear(now.noses.worn, x, odds);
        }
        return now.noses.wornTogether() - before;
    }

    public int until(int follower, int height, int seed, int n, int odds) {
        if (!now.hasFollower(follower) || !isHeardHeight(height) || !areYears(seed, n, odds)) {
            return NO_SUCH;
        }
        curves.fillAsNow(now, follower);
        long first = curves.bitsHeard(now, height);
        System.arraycopy(now.noses.worn, 0, curves.worn, 0, MOST_NOSES);
        long x = seed;
        for (int y = 1; y <= n; y++) {
            x = now.noses.passYear(curves.worn, x, odds);
            curves.takeHeights(now.noses, curves.worn);
            curves.fill(now, follower);
            if (curves.bitsHeard(now, height) != first) {
                return y;
            }
        }
        return NONE;
    }

    // ---- counts and images

    public int count(int what) {
        switch (what) {
            case 0:
                return now.steps;
            case 1:
                return now.tracks;
            case 2:
                return now.noses.count;
            case 3:
                return now.followers.count;
            case 4:
                return now.pawls.count;
            case 5:
                return now.lines;
            case 6:
                return tape.length;
            case 7:
                return now.jam;
            case 8:
                return now.slack;
            case 9:
                return now.hasMotion ? 1 : 0;
            case 10:
                return now.noses.brokenBits();
            case 11:
                return slots.howManyHaveRows();
            default:
                return NONE;
        }
    }

    public int keep(int k) {
        if (k < 0 || k >= IMAGES) {
            return NO_SUCH;
        }
        images[k].copyFrom(now);
        kept[k] = true;
        return 0;
    }

    public int back(int k) {
        if (k < 0 || k >= IMAGES) {
            return NO_SUCH;
        }
        if (!kept[k]) {
            return NOTHING;
        }
        now.copyFrom(images[k]);
        return 0;
    }

    // ---- slots

    public int row(int slot, int width, int n) {
        if (!isSlot(slot) || width < 0 || width > 3 || n > Slots.MOST_NUMBERS) {
            return NO_SUCH;
        }
        if (n < 0) {
            return BELOW_ZERO;
        }
        slots.makeRow(slot, width, n);
        return 0;
    }

    public int write(int slot, int i, long v) {
        if (!isSlot(slot)) {
            return NO_SUCH;
        }
        if (!slots.hasRow(slot)) {
            return NOTHING;
        }
        if (i < 0 || i >= slots.length[slot]) {
            return NO_NUMBER;
        }
        slots.put(slot, i, v);
        return 0;
    }

    public int paste(int slot, int i, int to, int k, int n) {
        if (!isSlot(slot) || !isSlot(to)) {
            return NO_SUCH;
        }
        if (!slots.hasRow(slot) || !slots.hasRow(to)) {
            return NOTHING;
        }
        if (slots.width[slot] != slots.width[to]) {
            return UNLIKE;
        }
        if (!slots.holds(slot, i, n) || !slots.holds(to, k, n)) {
            return NO_NUMBER;
        }
        slots.copyNumbers(slot, i, to, k, n);
        return 0;
    }

    // ---- what several calls ask

    private static boolean isSlot(int slot) {
        return slot >= 0 && slot < SLOTS;
    }

    private static boolean isHeardHeight(int height) {
        return height >= 1 && height <= MOST_HEARD_HEIGHT;
    }

    private static boolean areYears(int seed, int n, int odds) {
        return seed >= 0 && seed <= MOST_SEED && n >= 1 && n <= MOST_YEARS && odds >= 0 && odds <= 100;
    }

    private static boolean isCutter(int sort, int n) {
        if (sort == KNIFE) {
            return n == 0;
        }
        return (sort == ROLLER || sort == FLAT) && n >= 0 && n <= MOST_SIZE;
    }

    private int firstNotBrought(int sort, int n) {
        curves.fillCut(now, sort, n);
        curves.spread(now, sort, n);
        return firstUnlike(now.row, curves.lift);
    }

    private int firstUnlike(int[] one, int[] other) {
        for (int s = 0; s < now.steps; s++) {
            if (one[s] != other[s]) {
                return s;
            }
        }
        return NONE;
    }

    private int firstRise(int[] heights, int limit) {
        for (int s = 0; s < now.steps; s++) {
            if (heights[s] - heights[now.round(s - 1)] > limit) {
                return s;
            }
        }
        return NONE;
    }

    private int firstFall(int[] heights, int limit) {
        for (int s = 0; s < now.steps; s++) {
            if (heights[now.round(s - 1)] - heights[s] > limit) {
                return s;
            }
        }
        return NONE;
    }

    /** Brings a slot's numbers into the room: 0, or what a call answers if they can't be brought. */
    private int takeMotions(int slot) {
        if (!isSlot(slot) || !now.isTold()) {
            return NO_SUCH;
        }
        if (!slots.hasRow(slot) || slots.length[slot] == 0) {
            return NOTHING;
        }
        if (slots.length[slot] > Room.MOST_MOTIONS) {
            return NO_SUCH;
        }
        room.count = slots.length[slot];
        for (int i = 0; i < room.count; i++) {
            long size = slots.numberAt(slot, i);
            if (size < 1 || size > now.steps) {
                return NO_SUCH;
            }
            room.size[i] = (int) size;
        }
        return 0;
    }

    /** Finds the faults that let a slot's steps be heard: 0, or what a call answers if it can't be asked. */
    private int searchFaults(int follower, int height, int slot) {
        if (!now.hasFollower(follower) || !isHeardHeight(height) || !isSlot(slot)) {
            return NO_SUCH;
        }
        if (!slots.hasRow(slot)) {
            return NOTHING;
        }
        long wanted = 0;
        for (int i = 0; i < slots.length[slot]; i++) {
            long step = slots.numberAt(slot, i);
            if (step < 0 || step >= now.steps) {
                return NO_SUCH;
            }
            wanted |= 1L << step;
        }
        suspects.search(now, curves, follower, height, wanted);
        return 0;
    }

    /** The bytes that were fed, and the tokens read from them; the first fault stops all reading. */
    private static final class Tape {
        static final int MOST_BYTES = 1600;
        private static final int FED_AT_ONCE = 20;
        // Far above every bound of the document, far below what an int holds.
        private static final int MOST_VALUE = 1000000;

        private static final int ENDED = 0;
        private static final int WORD = 1;
        private static final int NUMBER = 2;
        private static final int SIGN = 3;
        private static final int STRANGE = 4;

        static final int MISPLACED = 1;
        static final int NOT_AS_SAID = 2;
        static final int TOO_MANY = 3;

        private final byte[] bytes = new byte[MOST_BYTES];
        int length;
        int fault;
        int place = NONE;
        private int kind;
        private int start;
        private int stop;
        private int value;

        boolean hasRoom() {
            return length <= MOST_BYTES - FED_AT_ONCE;
        }

        void put(int four) {
            for (int shift = 24; shift >= 0; shift -= 8) {
                if (length < MOST_BYTES) {
                    bytes[length] = (byte) (four >>> shift);
                    length++;
                }
            }
        }

        void beginReading() {
            fault = 0;
            place = NONE;
            stop = 0;
            readToken();
        }

        boolean goesOn() {
            return fault == 0 && kind != ENDED;
        }

        void blame(int which) {
            if (fault == 0) {
                fault = which;
                place = start;
            }
        }

        void readToken() {
            start = behindBlanks(stop);
            int c = byteAt(start);
            if (c == NONE) {
                kind = ENDED;
                stop = start;
            } else if (isLetter(c)) {
                kind = WORD;
                stop = behindLetters(start);
            } else if (isDigit(c)) {
                kind = NUMBER;
                stop = behindDigits(start);
            } else {
                kind = c == ';' || c == '{' || c == '}' ? SIGN : STRANGE;
                stop = start + 1;
            }
        }

        boolean isWord(String word) {
            if (kind != WORD || stop - start != word.length()) {
                return false;
            }
            for (int i = 0; i < word.length(); i++) {
                if (byteAt(start + i) != word.charAt(i)) {
                    return false;
                }
            }
            return true;
        }

        boolean isSign(char sign) {
            return kind == SIGN && byteAt(start) == sign;
        }

        void takeWord(String word) {
            if (fault != 0) {
                return;
            }
            if (isWord(word)) {
                readToken();
            } else {
                blame(MISPLACED);
            }
        }

        void takeSign(char sign) {
            if (fault != 0) {
                return;
            }
            if (isSign(sign)) {
                readToken();
            } else {
                blame(MISPLACED);
            }
        }

        /** The number that stands here; behind a fault what is answered is never used. */
        int takeNumber(int low, int high) {
            if (fault != 0) {
                return low;
            }
            if (kind != NUMBER) {
                blame(MISPLACED);
                return low;
            }
            if (value < low || value > high) {
                blame(NOT_AS_SAID);
                return low;
            }
            int taken = value;
            readToken();
            return taken;
        }

        private int byteAt(int i) {
            return i < 0 || i >= length || i >= MOST_BYTES ? NONE : bytes[i] & 255;
        }

        private int behindBlanks(int from) {
            int i = from;
            while (i < length && (bytes[i] == ' ' || bytes[i] == '\n')) {
                i++;
            }
            return i;
        }

        private int behindLetters(int from) {
            int i = from;
            while (i < length && bytes[i] >= 'a' && bytes[i] <= 'z') {
                i++;
            }
            return i;
        }

        private int behindDigits(int from) {
            int i = from;
            value = 0;
            while (i < length && bytes[i] >= '0' && bytes[i] <= '9') {
                if (value < MOST_VALUE) {
                    value = value * 10 + bytes[i] - '0';
                }
                i++;
            }
            return i;
        }

        private static boolean isLetter(int c) {
            return c >= 'a' && c <= 'z';
        }

        private static boolean isDigit(int c) {
            return c >= '0' && c <= '9';
        }
    }

    /** The drum as it was told and as it stands: all that an image keeps. */
    private static final class Machine {
        int steps;
        int jam;
        int slack;
        int tracks;
        int lines;
        boolean hasMotion;
        private int gearFirst;
        private int gearSecond;
        private boolean gearTold;
        final Noses noses = new Noses();
        final Followers followers = new Followers();
        final Pawls pawls = new Pawls();
        final Shaft shaft = new Shaft();
        final int[] row = new int[MOST_STEPS];

        boolean isTold() {
            return steps > 0;
        }

        boolean hasTrack(int track) {
            return track >= 0 && track < tracks;
        }

        boolean hasStep(int step) {
            return step >= 0 && step < steps;
        }

        boolean hasNose(int nose) {
            return nose >= 0 && nose < noses.count;
        }

        boolean hasFollower(int follower) {
            return follower >= 0 && follower < followers.count;
        }

        boolean hasPawl(int pawl) {
            return pawl >= 0 && pawl < pawls.count;
        }

        int round(int step) {
            return steps < 1 ? 0 : Math.floorMod(step, steps);
        }

        int secondStep(int angle) {
            return gearSecond < 1 ? 0 : round(angle * gearFirst / gearSecond);
        }

        void clear() {
            steps = 0;
            jam = 0;
            slack = 0;
            tracks = 0;
            lines = 0;
            hasMotion = false;
            gearFirst = 1;
            gearSecond = 1;
            gearTold = false;
            noses.count = 0;
            followers.count = 0;
            pawls.count = 0;
            shaft.clear();
        }

        void copyFrom(Machine other) {
            steps = other.steps;
            jam = other.jam;
            slack = other.slack;
            tracks = other.tracks;
            lines = other.lines;
            hasMotion = other.hasMotion;
            gearFirst = other.gearFirst;
            gearSecond = other.gearSecond;
            gearTold = other.gearTold;
            noses.copyFrom(other.noses);
            followers.copyFrom(other.followers);
            pawls.copyFrom(other.pawls);
            shaft.copyFrom(other.shaft);
            System.arraycopy(other.row, 0, row, 0, MOST_STEPS);
        }

        void readFrom(Tape tape) {
            for (int i = 0; i < Tape.MOST_BYTES && tape.goesOn(); i++) {
                readLine(tape);
                tape.takeSign(';');
                lines++;
            }
        }

        private void readLine(Tape tape) {
            if (lines == 0) {
                readDrumLine(tape);
            } else if (tape.isWord("track")) {
                readTrackLine(tape);
            } else if (tape.isWord("nose")) {
                noses.readLine(tape, tracks, steps);
            } else if (tape.isWord("pawl")) {
                pawls.readLine(tape, followers.count);
            } else if (tape.isWord("gear")) {
                readGearLine(tape);
            } else {
                followers.readLine(tape, tracks);
            }
        }

        private void readDrumLine(Tape tape) {
            tape.takeWord("drum");
            tape.takeWord("steps");
            steps = tape.takeNumber(4, MOST_STEPS);
            tape.takeWord("jam");
            jam = tape.takeNumber(1, MOST_HIGH);
            tape.takeWord("slack");
            slack = tape.takeNumber(0, 9);
        }

        private void readTrackLine(Tape tape) {
            if (tracks >= MOST_TRACKS) {
                tape.blame(Tape.TOO_MANY);
                return;
            }
            tape.readToken();
            tracks++;
        }

        private void readGearLine(Tape tape) {
            if (gearTold) {
                tape.blame(Tape.NOT_AS_SAID);
                return;
            }
            tape.readToken();
            gearFirst = tape.takeNumber(1, 60);
            tape.takeWord("to");
            gearSecond = tape.takeNumber(1, 60);
            gearTold = true;
        }

        /** Needs the table of lifts. */
        void begin(Curves curves) {
            followers.begin(curves);
        }

        /** Needs the table of lifts; false: the step is jammed. */
        boolean takeStep(int way, Curves curves) {
            int left = shaft.slackFor(way, slack);
            if (left > 0) {
                shaft.take(way, left - 1);
                return true;
            }
            int step = round(shaft.angle + way);
            int jamming = followers.firstJammed(curves, step, jam);
            if (jamming != NONE) {
                shaft.jamBy(jamming);
                return false;
            }
            shaft.take(way, 0);
            shaft.turnOn(way);
            shaft.work += followers.moveTo(curves, step, shaft.turned);
            pawls.goOn(followers);
            return true;
        }
    }

    /** The noses, as told, and what is worn and broken of them. */
    private static final class Noses {
        int count;
        final int[] track = new int[MOST_NOSES];
        final int[] at = new int[MOST_NOSES];
        final int[] wide = new int[MOST_NOSES];
        final int[] high = new int[MOST_NOSES];
        final int[] steep = new int[MOST_NOSES];
        final int[] worn = new int[MOST_NOSES];
        final boolean[] broken = new boolean[MOST_NOSES];

        void readLine(Tape tape, int tracks, int steps) {
            if (count >= MOST_NOSES) {
                tape.blame(Tape.TOO_MANY);
                return;
            }
            tape.readToken();
            tape.takeWord("on");
            track[count] = tape.takeNumber(0, tracks - 1);
            tape.takeWord("at");
            at[count] = tape.takeNumber(0, steps - 1);
            tape.takeWord("wide");
            wide[count] = tape.takeNumber(1, steps);
            tape.takeWord("high");
            high[count] = tape.takeNumber(1, MOST_HIGH);
            tape.takeWord("steep");
            steep[count] = tape.takeNumber(1, 60);
            worn[count] = 0;
            broken[count] = false;
            count++;
        }

        void copyFrom(Noses other) {
            count = other.count;
            System.arraycopy(other.track, 0, track, 0, MOST_NOSES);
            System.arraycopy(other.at, 0, at, 0, MOST_NOSES);
            System.arraycopy(other.wide, 0, wide, 0, MOST_NOSES);
            System.arraycopy(other.high, 0, high, 0, MOST_NOSES);
            System.arraycopy(other.steep, 0, steep, 0, MOST_NOSES);
            System.arraycopy(other.worn, 0, worn, 0, MOST_NOSES);
            System.arraycopy(other.broken, 0, broken, 0, MOST_NOSES);
        }

        int heightOf(int nose, int wornBy) {
            return broken[nose] ? 0 : Math.max(0, high[nose] - wornBy);
        }

        int brokenBits() {
            int bits = 0;
            for (int i = 0; i < count; i++) {
                if (broken[i]) {
                    bits |= 1 << i;
                }
            }
            return bits;
        }

        int wornTogether() {
            int sum = 0;
            for (int i = 0; i < count; i++) {
                sum += worn[i];
            }
            return sum;
        }

        /** One year of wear, on a row that may be in thought: x as the draws leave it. */
        long passYear(int[] wear, long x, int odds) {
            long drawn = x;
            for (int i = 0; i < count; i++) {
                drawn = (1103515245L * drawn + 12345L) & 2147483647L;
                if (drawn / 65536L % 100L < odds && wear[i] < high[i]) {
                    wear[i]++;
                }
            }
            return drawn;
        }
    }

    /** The followers, as told, and where they are. */
    private static final class Followers {
        // One more than the greatest lag, so that the row goes back far enough.
        private static final int PAST = MOST_LAG + 1;

        int count;
        final int[] sort = new int[MOST_FOLLOWERS];
        // A lever's follower, the others' track.
        final int[] on = new int[MOST_FOLLOWERS];
        // A roller's or flat's size, a lever's first number.
        final int[] first = new int[MOST_FOLLOWERS];
        private final int[] second = new int[MOST_FOLLOWERS];
        final int[] spring = new int[MOST_FOLLOWERS];
        private final int[] lag = new int[MOST_FOLLOWERS];
        final int[] pos = new int[MOST_FOLLOWERS];
        final int[] was = new int[MOST_FOLLOWERS];
        private final int[] past = new int[PAST * MOST_FOLLOWERS];

        void readLine(Tape tape, int tracks) {
            int told = sortHere(tape);
            if (told == NONE) {
                tape.blame(Tape.MISPLACED);
                return;
            }
            if (count >= MOST_FOLLOWERS) {
                tape.blame(Tape.TOO_MANY);
                return;
            }
            tape.readToken();
            sort[count] = told;
            if (told == LEVER) {
                readLever(tape);
            } else {
                readSprung(tape, told, tracks);
            }
            count++;
        }

        private static int sortHere(Tape tape) {
            if (tape.isWord("knife")) {
                return KNIFE;
            }
            if (tape.isWord("roller")) {
                return ROLLER;
            }
            if (tape.isWord("flat")) {
                return FLAT;
            }
            return tape.isWord("lever") ? LEVER : NONE;
        }

        private void readSprung(Tape tape, int told, int tracks) {
            first[count] = told == KNIFE ? 0 : tape.takeNumber(0, MOST_SIZE);
            second[count] = 1;
            tape.takeWord("on");
            on[count] = tape.takeNumber(0, tracks - 1);
            tape.takeWord("spring");
            spring[count] = tape.takeNumber(1, 60);
            tape.takeWord("lag");
            lag[count] = tape.takeNumber(0, MOST_LAG);
        }

        private void readLever(Tape tape) {
            tape.takeWord("on");
            on[count] = tape.takeNumber(0, count - 1);
            first[count] = tape.takeNumber(1, 9);
            tape.takeWord("over");
            second[count] = tape.takeNumber(1, 9);
            spring[count] = 1;
            lag[count] = 0;
        }

        void copyFrom(Followers other) {
            count = other.count;
            System.arraycopy(other.sort, 0, sort, 0, MOST_FOLLOWERS);
            System.arraycopy(other.on, 0, on, 0, MOST_FOLLOWERS);
            System.arraycopy(other.first, 0, first, 0, MOST_FOLLOWERS);
            System.arraycopy(other.second, 0, second, 0, MOST_FOLLOWERS);
            System.arraycopy(other.spring, 0, spring, 0, MOST_FOLLOWERS);
            System.arraycopy(other.lag, 0, lag, 0, MOST_FOLLOWERS);
            System.arraycopy(other.pos, 0, pos, 0, MOST_FOLLOWERS);
            System.arraycopy(other.was, 0, was, 0, MOST_FOLLOWERS);
            System.arraycopy(other.past, 0, past, 0, PAST * MOST_FOLLOWERS);
        }

        /** The knife, roller or flat that a follower hangs on, over levers; it itself, if it is no lever. */
        int rootOf(int follower) {
            int root = follower;
            for (int i = 0; i < MOST_FOLLOWERS && sort[root] == LEVER; i++) {
                root = below(root);
            }
            return root;
        }

        /** The levers from a follower down to its root, as bits; each stands behind the one that it is on. */
        int leversOf(int follower) {
            int bits = 0;
            int lever = follower;
            for (int i = 0; i < MOST_FOLLOWERS && sort[lever] == LEVER; i++) {
                bits |= 1 << lever;
                lever = below(lever);
            }
            return bits;
        }

        private int below(int lever) {
            return on[lever] < 0 || on[lever] >= lever ? 0 : on[lever];
        }

        int leverOver(int lever, int height) {
            return second[lever] < 1 ? 0 : Math.min(height * first[lever] / second[lever], MOST_LEVER);
        }

        void begin(Curves curves) {
            for (int f = 0; f < count; f++) {
                pos[f] = curves.liftAt(f, 0);
                was[f] = pos[f];
                for (int i = 0; i < PAST; i++) {
                    past[i * MOST_FOLLOWERS + f] = pos[f];
                }
            }
        }

        int firstJammed(Curves curves, int step, int jam) {
            for (int f = 0; f < count; f++) {
                if (sort[f] != LEVER && curves.liftAt(f, step) - pos[f] > jam) {
                    return f;
                }
            }
            return NONE;
        }

        /** Goes to a step: how much knives, rollers and flats have risen. */
        int moveTo(Curves curves, int step, int turned) {
            int risen = 0;
            int line = Math.floorMod(turned, PAST) * MOST_FOLLOWERS;
            for (int f = 0; f < count; f++) {
                was[f] = pos[f];
                if (sort[f] == LEVER) {
                    pos[f] = leverOver(f, pos[below(f)]);
                } else {
                    pos[f] = Math.max(curves.liftAt(f, step), pos[f] - spring[f]);
                    risen += Math.max(0, pos[f] - was[f]);
                }
                past[line + f] = pos[f];
            }
            return risen;
        }

        int movedOf(int follower, int turned) {
            return past[Math.floorMod(turned - lag[follower], PAST) * MOST_FOLLOWERS + follower];
        }
    }

    /** The pawls, as told, and their counts. */
    private static final class Pawls {
        int count;
        final int[] on = new int[MOST_PAWLS];
        final int[] at = new int[MOST_PAWLS];
        private final int[] teeth = new int[MOST_PAWLS];
        final int[] tally = new int[MOST_PAWLS];

        void readLine(Tape tape, int followers) {
            if (count >= MOST_PAWLS) {
                tape.blame(Tape.TOO_MANY);
                return;
            }
            tape.readToken();
            tape.takeWord("on");
            on[count] = tape.takeNumber(0, followers - 1);
            tape.takeWord("at");
            at[count] = tape.takeNumber(1, 99);
            tape.takeWord("teeth");
            teeth[count] = tape.takeNumber(2, 30);
            tally[count] = 0;
            count++;
        }

        void copyFrom(Pawls other) {
            count = other.count;
            System.arraycopy(other.on, 0, on, 0, MOST_PAWLS);
            System.arraycopy(other.at, 0, at, 0, MOST_PAWLS);
            System.arraycopy(other.teeth, 0, teeth, 0, MOST_PAWLS);
            System.arraycopy(other.tally, 0, tally, 0, MOST_PAWLS);
        }

        void goOn(Followers followers) {
            for (int p = 0; p < count; p++) {
                int f = on[p];
                if (f >= 0 && f < followers.count && followers.was[f] < at[p] && followers.pos[f] >= at[p]) {
                    tally[p] = roundByTeeth(p, tally[p] + 1);
                }
            }
        }

        boolean areBack(int[] clicks, int turns) {
            for (int p = 0; p < count; p++) {
                if (roundByTeeth(p, clicks[p] * turns) != 0) {
                    return false;
                }
            }
            return true;
        }

        private int roundByTeeth(int pawl, int clicks) {
            return teeth[pawl] < 1 ? 0 : clicks % teeth[pawl];
        }
    }

    /** How far the drum was turned, and how it went. */
    private static final class Shaft {
        int angle;
        int taken;
        int turned;
        int work;
        int slackLeft;
        int jammed;
        int jammedBy = NONE;
        // 0, as long as no step was taken.
        private int way;

        void clear() {
            angle = 0;
            taken = 0;
            turned = 0;
            work = 0;
            slackLeft = 0;
            jammed = 0;
            jammedBy = NONE;
            way = 0;
        }

        void copyFrom(Shaft other) {
            angle = other.angle;
            taken = other.taken;
            turned = other.turned;
            work = other.work;
            slackLeft = other.slackLeft;
            jammed = other.jammed;
            jammedBy = other.jammedBy;
            way = other.way;
        }

        int slackFor(int next, int slack) {
            return way == -next ? slack : slackLeft;
        }

        void take(int next, int left) {
            way = next;
            slackLeft = left;
            taken++;
        }

        void turnOn(int next) {
            angle += next;
            turned++;
        }

        void jamBy(int follower) {
            jammed++;
            jammedBy = follower;
        }
    }

    /** What follows from noses of some heights: profiles, lifts, steady turns; the rows are filled anew for each call. */
    private static final class Curves {
        final int[] heights = new int[MOST_NOSES];
        final int[] worn = new int[MOST_NOSES];
        final int[] profile = new int[MOST_STEPS];
        final int[] lift = new int[MOST_STEPS];
        final int[] pos = new int[MOST_STEPS];
        final int[] clicks = new int[MOST_PAWLS];
        private final int[][] lifts = new int[MOST_FOLLOWERS][MOST_STEPS];

        void takeHeights(Noses noses, int[] wear) {
            for (int i = 0; i < noses.count; i++) {
                heights[i] = noses.heightOf(i, wear[i]);
            }
        }

        /** Heights of a drum of which nothing is worn or broken. */
        void takeToldHeights(Noses noses) {
            for (int i = 0; i < noses.count; i++) {
                heights[i] = noses.high[i];
            }
        }

        void fillProfileAsNow(Machine m, int track) {
            takeHeights(m.noses, m.noses.worn);
            fillProfile(m, track);
        }

        private void fillProfile(Machine m, int track) {
            clearProfile(m);
            for (int i = 0; i < m.noses.count; i++) {
                if (m.noses.track[i] == track && heights[i] > 0) {
                    raiseProfile(m, i);
                }
            }
        }

        private void clearProfile(Machine m) {
            for (int s = 0; s < m.steps; s++) {
                profile[s] = 0;
            }
        }

        /** Goes once round from the nose's first step; no calls within, as all that is asked comes through here. */
        private void raiseProfile(Machine m, int nose) {
            int high = heights[nose];
            int steep = m.noses.steep[nose];
            int last = m.noses.wide[nose] - 1;
            int step = m.hasStep(m.noses.at[nose]) ? m.noses.at[nose] : 0;
            for (int off = 0; off < m.steps; off++) {
                int behind = off - last;
                int ahead = m.steps - off;
                int away = behind <= 0 ? 0 : behind < ahead ? behind : ahead;
                int shape = high - steep * away;
                if (shape > profile[step]) {
                    profile[step] = shape;
                }
                step = step + 1 < m.steps ? step + 1 : 0;
            }
        }

        boolean doMeet(Machine m, int one, int other) {
            clearProfile(m);
            raiseProfile(m, one);
            System.arraycopy(profile, 0, lift, 0, MOST_STEPS);
            clearProfile(m);
            raiseProfile(m, other);
            for (int s = 0; s < m.steps; s++) {
                if (profile[s] > 0 && lift[s] > 0) {
                    return true;
                }
            }
            return false;
        }

        boolean isSpare(Machine m, int nose) {
            int height = heights[nose];
            fillProfile(m, m.noses.track[nose]);
            System.arraycopy(profile, 0, lift, 0, MOST_STEPS);
            heights[nose] = 0;
            fillProfile(m, m.noses.track[nose]);
            heights[nose] = height;
            for (int s = 0; s < m.steps; s++) {
                if (profile[s] != lift[s]) {
                    return false;
                }
            }
            return true;
        }

        /** Lifts of a knife, roller or flat over the profile that is filled. */
        void spread(Machine m, int sort, int size) {
            for (int s = 0; s < m.steps; s++) {
                int greatest = 0;
                int step = m.round(s - size);
                for (int d = -size; d <= size; d++) {
                    int height = sort == ROLLER ? profile[step] - d * d : profile[step];
                    if (height > greatest) {
                        greatest = height;
                    }
                    step = step + 1 < m.steps ? step + 1 : 0;
                }
                lift[s] = greatest;
            }
        }

        /** The profile is cut from the row, so that spreading it brings the row, if anything can. */
        void fillCut(Machine m, int sort, int size) {
            for (int s = 0; s < m.steps; s++) {
                int least = m.row[s];
                int step = m.round(s - size);
                for (int d = -size; d <= size; d++) {
                    int height = sort == ROLLER ? m.row[step] + d * d : m.row[step];
                    if (height < least) {
                        least = height;
                    }
                    step = step + 1 < m.steps ? step + 1 : 0;
                }
                profile[s] = least;
            }
        }

        void fillAsNow(Machine m, int follower) {
            takeHeights(m.noses, m.noses.worn);
            fill(m, follower);
        }

        /** Lifts and steady places of a follower over noses of the heights that are set. */
        void fill(Machine m, int follower) {
            if (!m.hasFollower(follower)) {
                return;
            }
            int root = m.followers.rootOf(follower);
            fillProfile(m, m.followers.on[root]);
            spread(m, m.followers.sort[root], m.followers.first[root]);
            settle(m, m.followers.spring[root]);
            int levers = m.followers.leversOf(follower);
            for (int f = root + 1; f <= follower; f++) {
                if ((levers >> f & 1) == 1) {
                    passLever(m, f);
                }
            }
        }

        /** The first turn comes over the highest lift, so the second one is as all the later ones. */
        private void settle(Machine m, int spring) {
            int at = lift[0];
            int s = 0;
            for (int i = 1; i < 2 * m.steps; i++) {
                s = s + 1 < m.steps ? s + 1 : 0;
                at = Math.max(lift[s], at - spring);
                pos[s] = at;
            }
        }

        private void passLever(Machine m, int lever) {
            for (int s = 0; s < m.steps; s++) {
                lift[s] = m.followers.leverOver(lever, lift[s]);
                pos[s] = m.followers.leverOver(lever, pos[s]);
            }
        }

        /** Lifts of all followers, for calls that look at many steps. */
        void fillTable(Machine m) {
            takeHeights(m.noses, m.noses.worn);
            for (int f = 0; f < m.followers.count; f++) {
                fill(m, f);
                System.arraycopy(lift, 0, lifts[f], 0, MOST_STEPS);
            }
        }

        int liftAt(int follower, int step) {
            if (follower < 0 || follower >= MOST_FOLLOWERS || step < 0 || step >= MOST_STEPS) {
                return 0;
            }
            return lifts[follower][step];
        }

        int risenInTurn(Machine m) {
            int risen = 0;
            for (int s = 0; s < m.steps; s++) {
                risen += Math.max(0, pos[s] - pos[m.round(s - 1)]);
            }
            return risen;
        }

        int clicksInTurn(Machine m, int at) {
            int clicked = 0;
            for (int s = 0; s < m.steps; s++) {
                if (pos[m.round(s - 1)] < at && pos[s] >= at) {
                    clicked++;
                }
            }
            return clicked;
        }

        long bitsHeard(Machine m, int height) {
            long bits = 0;
            for (int s = 0; s < m.steps; s++) {
                if (pos[m.round(s - 1)] >= height && pos[s] < height) {
                    bits |= 1L << s;
                }
            }
            return bits;
        }

        int awayBy(Machine m, int shift) {
            int away = 0;
            for (int s = 0; s < m.steps; s++) {
                away += Math.abs(m.row[s] - pos[m.round(s + shift)]);
            }
            return away;
        }

        int leastAway(Machine m) {
            int least = awayBy(m, 0);
            for (int shift = 1; shift < m.steps; shift++) {
                least = Math.min(least, awayBy(m, shift));
            }
            return least;
        }
    }

    /** A motion's acts in their order, and the row that they make. */
    private static final class Program {
        // The shortest act that stands for itself has four bytes, a pair of braces with its head more than eight.
        private static final int MOST_ACTS = Tape.MOST_BYTES / 4;
        private static final int MOST_OPEN = 5;
        private static final int MOST_RUN = 1000000;

        private static final int UP = 0;
        private static final int DOWN = 1;
        private static final int HOLD = 2;
        private static final int TIMES = 3;
        private static final int IF = 4;
        private static final int CLOSE = 5;

        private int count;
        private final int[] act = new int[MOST_ACTS];
        private final int[] first = new int[MOST_ACTS];
        private final int[] second = new int[MOST_ACTS];
        // Where the other brace is.
        private final int[] partner = new int[MOST_ACTS];
        private int open;
        private final int[] opened = new int[MOST_OPEN];
        private final int[] left = new int[MOST_OPEN];
        private final int[] since = new int[MOST_OPEN];
        private int step;
        private int height;

        void readFrom(Tape tape, int followers) {
            count = 0;
            open = 0;
            for (int i = 0; i < Tape.MOST_BYTES && tape.goesOn(); i++) {
                readAct(tape, followers);
            }
            if (open > 0) {
                tape.blame(Tape.MISPLACED);
            }
        }

        private void readAct(Tape tape, int followers) {
            if (tape.isWord("up")) {
                readMove(tape, UP, 0);
            } else if (tape.isWord("down")) {
                readMove(tape, DOWN, 0);
            } else if (tape.isWord("hold")) {
                readMove(tape, HOLD, 1);
            } else if (tape.isWord("times")) {
                tape.readToken();
                int many = tape.takeNumber(2, 60);
                readOpening(tape, TIMES, many, 0);
            } else if (tape.isWord("if")) {
                tape.readToken();
                int follower = tape.takeNumber(0, followers - 1);
                tape.takeWord("above");
                int limit = tape.takeNumber(0, 999);
                readOpening(tape, IF, follower, limit);
            } else if (tape.isSign('}') && open > 0) {
                readClosing(tape);
            } else {
                tape.blame(Tape.MISPLACED);
            }
        }

        private void readMove(Tape tape, int which, int least) {
            tape.readToken();
            int n = tape.takeNumber(least, 60);
            tape.takeSign(';');
            add(which, n, 0);
        }

        private void readOpening(Tape tape, int which, int one, int other) {
            if (open >= MOST_OPEN && tape.isSign('{')) {
                tape.blame(Tape.TOO_MANY);
            }
            tape.takeSign('{');
            if (tape.fault == 0 && open < MOST_OPEN) {
                opened[open] = count;
                open++;
                add(which, one, other);
            }
        }

        private void readClosing(Tape tape) {
            tape.readToken();
            open--;
            int opening = opened[open];
            add(CLOSE, opening, 0);
            if (opening < MOST_ACTS) {
                partner[opening] = count - 1;
            }
        }

        private void add(int which, int one, int other) {
            if (count < MOST_ACTS) {
                act[count] = which;
                first[count] = one;
                second[count] = other;
                partner[count] = count;
                count++;
            }
        }

        /** Makes the machine's row; needs the table of lifts: how many steps the acts come to. */
        int fillRow(Machine m, Curves curves) {
            step = 0;
            height = 0;
            open = 0;
            m.row[0] = 0;
            int at = 0;
            for (int i = 0; i < MOST_RUN && at < count && step < m.steps - 1; i++) {
                at = behindAct(m, curves, at);
            }
            for (int s = step + 1; s < m.steps; s++) {
                m.row[s] = height;
            }
            return step;
        }

        /** Does an act: where the next one is. */
        private int behindAct(Machine m, Curves curves, int at) {
            switch (act[at]) {
                case UP:
                    height += first[at];
                    comeOn(m, 1);
                    return at + 1;
                case DOWN:
                    height = Math.max(0, height - first[at]);
                    comeOn(m, 1);
                    return at + 1;
                case HOLD:
                    comeOn(m, first[at]);
                    return at + 1;
                case TIMES:
                    enter(first[at]);
                    return at + 1;
                case IF:
                    if (curves.liftAt(first[at], step) <= second[at]) {
                        return partner[at] + 1;
                    }
                    enter(1);
                    return at + 1;
                default:
                    return behindClosing(at);
            }
        }

        private void comeOn(Machine m, int n) {
            for (int i = 0; i < n && step < m.steps - 1; i++) {
                step++;
                m.row[step] = height;
            }
        }

        private void enter(int times) {
            if (open < MOST_OPEN) {
                left[open] = times;
                since[open] = step;
                open++;
            }
        }

        /** Acts that came to no step would come to none for ever: they are not done again, so that all ends. */
        private int behindClosing(int at) {
            if (open < 1) {
                return at + 1;
            }
            int inner = open - 1;
            left[inner]--;
            if (left[inner] > 0 && step > since[inner]) {
                since[inner] = step;
                return first[at] + 1;
            }
            open = inner;
            return at + 1;
        }
    }

    /** Faults of a drum that let just some steps be heard. */
    private static final class Suspects {
        private static final int MOST_WEAR = 9;

        int many;
        int brokenBits;
        int wornBits;
        int leastWear;
        boolean nothingIs;

        void search(Machine m, Curves curves, int follower, int height, long wanted) {
            many = 0;
            brokenBits = 0;
            wornBits = 0;
            leastWear = 0;
            curves.takeToldHeights(m.noses);
            curves.fill(m, follower);
            nothingIs = curves.bitsHeard(m, height) == wanted;
            if (nothingIs) {
                many++;
            }
            int track = m.followers.on[m.followers.rootOf(follower)];
            for (int i = 0; i < m.noses.count; i++) {
                if (m.noses.track[i] == track) {
                    tryNose(m, curves, follower, height, wanted, i);
                } else if (nothingIs) {
                    suspectAll(i, m.noses.high[i]);
                }
            }
        }

        private void tryNose(Machine m, Curves curves, int follower, int height, long wanted, int nose) {
            int told = m.noses.high[nose];
            curves.heights[nose] = 0;
            curves.fill(m, follower);
            if (curves.bitsHeard(m, height) == wanted) {
                suspectBroken(nose);
            }
            for (int w = 1; w <= MOST_WEAR && w <= told; w++) {
                curves.heights[nose] = told - w;
                curves.fill(m, follower);
                if (curves.bitsHeard(m, height) == wanted) {
                    suspectWorn(nose, w);
                }
            }
            curves.heights[nose] = told;
        }

        /** What befalls a nose of another track is not heard of this follower. */
        private void suspectAll(int nose, int told) {
            suspectBroken(nose);
            for (int w = 1; w <= MOST_WEAR && w <= told; w++) {
                suspectWorn(nose, w);
            }
        }

        private void suspectBroken(int nose) {
            many++;
            brokenBits |= 1 << nose;
        }

        private void suspectWorn(int nose, int wear) {
            many++;
            wornBits |= 1 << nose;
            leastWear = leastWear == 0 ? wear : Math.min(leastWear, wear);
        }
    }

    /** The four rows of numbers that calls write and read. */
    private static final class Slots {
        static final int MOST_NUMBERS = 60;

        final int[] width = new int[SLOTS];
        // How many numbers; only looked at if there is a row.
        final int[] length = new int[SLOTS];
        private final boolean[] made = new boolean[SLOTS];
        private final long[] numbers = new long[SLOTS * MOST_NUMBERS];

        boolean hasRow(int slot) {
            return made[slot];
        }

        int howManyHaveRows() {
            int many = 0;
            for (int slot = 0; slot < SLOTS; slot++) {
                if (made[slot]) {
                    many++;
                }
            }
            return many;
        }

        void makeRow(int slot, int wide, int n) {
            made[slot] = true;
            width[slot] = wide;
            length[slot] = n;
            for (int i = 0; i < MOST_NUMBERS; i++) {
                numbers[slot * MOST_NUMBERS + i] = 0;
            }
        }

        long numberAt(int slot, int i) {
            return numbers[slot * MOST_NUMBERS + i];
        }

        void put(int slot, int i, long v) {
            numbers[slot * MOST_NUMBERS + i] = cutTo(width[slot], v);
        }

        private static long cutTo(int wide, long v) {
            switch (wide) {
                case 0:
                    return (byte) v;
                case 1:
                    return (short) v;
                case 2:
                    return (int) v;
                default:
                    return v;
            }
        }

        boolean holds(int slot, int from, int n) {
            return from >= 0 && n >= 0 && (long) from + n <= length[slot];
        }

        void copyNumbers(int slot, int i, int to, int k, int n) {
            System.arraycopy(numbers, slot * MOST_NUMBERS + i, numbers, to * MOST_NUMBERS + k, n);
        }
    }

    /** Motions of some sizes that share tracks. */
    private static final class Room {
        static final int MOST_MOTIONS = 8;

        int count;
        final int[] size = new int[MOST_MOTIONS];
        final int[] track = new int[MOST_MOTIONS];
        private final int[] load = new int[MOST_MOTIONS];

        /** Leaves the least row of tracks in track. */
        int fewestTracks(int steps) {
            for (int tracks = 1; tracks < count; tracks++) {
                clearLoads();
                if (findsRoom(this, 0, 0, tracks, steps)) {
                    return tracks;
                }
            }
            clearLoads();
            findsRoom(this, 0, 0, count, steps);
            return count;
        }

        private void clearLoads() {
            for (int t = 0; t < MOST_MOTIONS; t++) {
                load[t] = 0;
            }
        }

        /**
         * Trying the lower tracks first makes the first row that is found the least one; a track
         * behind the next empty one would only be another name for that one.
         */
        private static boolean findsRoom(Room room, int i, int used, int tracks, int steps) {
            if (i >= room.count || i >= MOST_MOTIONS) {
                return true;
            }
            for (int t = 0; t <= used && t < tracks && t < MOST_MOTIONS; t++) {
                if (room.load[t] + room.size[i] <= steps) {
                    room.load[t] += room.size[i];
                    room.track[i] = t;
                    if (findsRoom(room, i + 1, t == used ? used + 1 : used, tracks, steps)) {
                        return true;
                    }
                    room.load[t] -= room.size[i];
                }
            }
            return false;
        }

        /** The most motions of which any two are too long for one track. */
        int mostApart(int steps) {
            int most = 0;
            for (int set = 1; set < 1 << count; set++) {
                if (areApart(set, steps)) {
                    most = Math.max(most, Integer.bitCount(set));
                }
            }
            return most;
        }

        private boolean areApart(int set, int steps) {
            for (int i = 0; i < count; i++) {
                for (int j = 0; j < i; j++) {
                    if ((set >> i & 1) == 1 && (set >> j & 1) == 1 && size[i] + size[j] <= steps) {
                        return false;
                    }
                }
            }
            return true;
        }
    }
}
