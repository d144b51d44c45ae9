import java.util.ArrayList;
import java.util.Arrays;
import java.util.HashMap;
import java.util.HashSet;
import java.util.List;
import java.util.Map;
import java.util.Set;
import java.util.TreeSet;
import java.util.regex.Matcher;
import java.util.regex.Pattern;

/**
 * The document written a second time, as plainly as Java lets, with no regard to LANGUAGE.md.
 * It shares nothing with the class, so that a slip in one of them shows.
 */
final class Model {
    /** A reading that met a fault. */
    private static final class Fault extends Exception {
        private static final long serialVersionUID = 1;
        final int which;
        final int place;

        Fault(int which, int place) {
            this.which = which;
            this.place = place;
        }
    }

    private record Token(String text, int place) {
        boolean isNumber() {
            return !text.isEmpty() && Character.isDigit(text.charAt(0));
        }
    }

    private record Nose(int track, int at, int wide, int high, int steep) {
    }

    private record Follower(int sort, int on, int size, int over, int spring, int lag) {
    }

    private record Pawl(int on, int at, int teeth) {
    }

    /** All that an image keeps. */
    private static final class State {
        int steps;
        int jam;
        int slack;
        int lines;
        int tracks;
        int[] gear;
        List<Nose> noses = new ArrayList<>();
        List<Follower> followers = new ArrayList<>();
        List<Pawl> pawls = new ArrayList<>();
        List<Integer> worn = new ArrayList<>();
        Set<Integer> broken = new TreeSet<>();
        List<Integer> row;
        int angle;
        int taken;
        int work;
        int jams;
        int jammedBy = -1;
        int way;
        int sinceReversal;
        boolean reversed;
        List<List<Integer>> past = new ArrayList<>();
        List<Integer> counts = new ArrayList<>();

        State copy() {
            State c = new State();
            c.steps = steps;
            c.jam = jam;
            c.slack = slack;
            c.lines = lines;
            c.tracks = tracks;
            c.gear = gear;
            c.noses = new ArrayList<>(noses);
            c.followers = new ArrayList<>(followers);
            c.pawls = new ArrayList<>(pawls);
            c.worn = new ArrayList<>(worn);
            c.broken = new TreeSet<>(broken);
            c.row = row;
            c.angle = angle;
            c.taken = taken;
            c.work = work;
            c.jams = jams;
            c.jammedBy = jammedBy;
            c.way = way;
            c.sinceReversal = sinceReversal;
            c.reversed = reversed;
            c.past = new ArrayList<>(past);
            c.counts = new ArrayList<>(counts);
            return c;
        }
    }

    private String tape = "";
    private State st = new State();
    private int fault = 0;
    private int place = -1;
    private final Map<Integer, State> images = new HashMap<>();
    private final Map<Integer, long[]> rows = new HashMap<>();
    private final Map<Integer, Integer> widths = new HashMap<>();

    // ---- texts

    public int feed(int a, int b, int c, int d, int e) {
        if (tape.length() + 20 > 1600) {
            return -1;
        }
        StringBuilder more = new StringBuilder(tape);
        for (int v : new int[] {a, b, c, d, e}) {
            more.append((char) (v >>> 24)).append((char) (v >>> 16 & 255)).append((char) (v >>> 8 & 255)).append((char) (v & 255));
        }
        tape = more.toString();
        return tape.length();
    }

    public int end(int n) {
        if (n < 0 || n > tape.length()) {
            return -1;
        }
        tape = tape.substring(0, n);
        return n;
    }

    private static List<Token> tokens(String text) {
        List<Token> found = new ArrayList<>();
        Matcher m = Pattern.compile("[ \n]+|([a-z]+|[0-9]+|.)", Pattern.DOTALL).matcher(text);
        while (m.find()) {
            if (m.group(1) != null) {
                found.add(new Token(m.group(1), m.start()));
            }
        }
        found.add(new Token("", text.length()));
        return found;
    }

    private static int number(Token t, int low, int high) throws Fault {
        if (!t.isNumber()) {
            throw new Fault(1, t.place);
        }
        String digits = t.text.replaceFirst("^0+(?=.)", "");
        if (digits.length() > 9 || Integer.parseInt(digits) < low || Integer.parseInt(digits) > high) {
            throw new Fault(2, t.place);
        }
        return Integer.parseInt(digits);
    }

    private static final Map<String, String> LINES = Map.of(
        "drum", "drum steps 4..60 jam 1..60 slack 0..9",
        "track", "track",
        "nose", "nose on T at S wide 1..W high 1..60 steep 1..60",
        "knife", "knife on T spring 1..60 lag 0..20",
        "roller", "roller 0..9 on T spring 1..60 lag 0..20",
        "flat", "flat 0..9 on T spring 1..60 lag 0..20",
        "lever", "lever on F 1..9 over 1..9",
        "pawl", "pawl on F at 1..99 teeth 2..30",
        "gear", "gear 1..60 to 1..60");

    private static int[] bounds(String part, State d) {
        switch (part) {
            case "T":
                return new int[] {0, d.tracks - 1};
            case "F":
                return new int[] {0, d.followers.size() - 1};
            case "S":
                return new int[] {0, d.steps - 1};
            case "1..W":
                return new int[] {1, d.steps};
            default:
                int dots = part.indexOf("..");
                return dots < 0 ? null : new int[] {Integer.parseInt(part.substring(0, dots)), Integer.parseInt(part.substring(dots + 2))};
        }
    }

    private static void roomFor(Token t, State d) throws Fault {
        boolean full = switch (t.text) {
            case "track" -> d.tracks == 6;
            case "nose" -> d.noses.size() == 24;
            case "knife", "roller", "flat", "lever" -> d.followers.size() == 10;
            case "pawl" -> d.pawls.size() == 4;
            default -> false;
        };
        if (full) {
            throw new Fault(3, t.place);
        }
        if (t.text.equals("gear") && d.gear != null) {
            throw new Fault(2, t.place);
        }
    }

    private static State read(String text) throws Fault {
        List<Token> ts = tokens(text);
        State d = new State();
        int i = 0;
        while (i < ts.size() - 1) {
            Token head = ts.get(i);
            if (!LINES.containsKey(head.text) || head.text.equals("drum") != (d.lines == 0)) {
                throw new Fault(1, head.place);
            }
            roomFor(head, d);
            List<Integer> ns = new ArrayList<>();
            for (String part : LINES.get(head.text).split(" ")) {
                int[] bounds = bounds(part, d);
                if (bounds != null) {
                    ns.add(number(ts.get(i), bounds[0], bounds[1]));
                } else if (!ts.get(i).text.equals(part)) {
                    throw new Fault(1, ts.get(i).place);
                }
                i++;
            }
            if (!ts.get(i).text.equals(";")) {
                throw new Fault(1, ts.get(i).place);
            }
            i++;
            d.lines++;
            tellLine(d, head.text, ns);
        }
        return d;
    }

    private static void tellLine(State d, String word, List<Integer> n) {
        switch (word) {
            case "drum" -> {
                d.steps = n.get(0);
                d.jam = n.get(1);
                d.slack = n.get(2);
            }
            case "track" -> d.tracks++;
            case "nose" -> {
                d.noses.add(new Nose(n.get(0), n.get(1), n.get(2), n.get(3), n.get(4)));
                d.worn.add(0);
            }
            case "knife" -> d.followers.add(new Follower(0, n.get(0), 0, 1, n.get(1), n.get(2)));
            case "roller" -> d.followers.add(new Follower(1, n.get(1), n.get(0), 1, n.get(2), n.get(3)));
            case "flat" -> d.followers.add(new Follower(2, n.get(1), n.get(0), 1, n.get(2), n.get(3)));
            case "lever" -> d.followers.add(new Follower(3, n.get(0), n.get(1), n.get(2), 0, 0));
            case "pawl" -> {
                d.pawls.add(new Pawl(n.get(0), n.get(1), n.get(2)));
                d.counts.add(0);
            }
            default -> d.gear = new int[] {n.get(0), n.get(1)};
        }
    }

    public int drum() {
        try {
            State d = read(tape);
            fault = 0;
            place = -1;
            tape = "";
            st = d;
            List<Integer> first = new ArrayList<>();
            for (int f = 0; f < d.followers.size(); f++) {
                first.add(liftOf(f, 0));
            }
            d.past.add(first);
            return d.lines;
        } catch (Fault f) {
            fault = f.which;
            place = f.place;
            return -4;
        }
    }

    /** Reads acts from i on; answers where they end. */
    private int acts(List<Token> ts, int i, int depth, List<Object[]> into) throws Fault {
        while (true) {
            Token t = ts.get(i);
            if (t.text.isEmpty() && depth == 0 || t.text.equals("}") && depth > 0) {
                return i;
            }
            switch (t.text) {
                case "up", "down", "hold" -> {
                    int n = number(ts.get(i + 1), t.text.equals("hold") ? 1 : 0, 60);
                    if (!ts.get(i + 2).text.equals(";")) {
                        throw new Fault(1, ts.get(i + 2).place);
                    }
                    into.add(new Object[] {t.text, n});
                    i += 3;
                }
                case "times" -> {
                    int n = number(ts.get(i + 1), 2, 60);
                    List<Object[]> body = new ArrayList<>();
                    i = braces(ts, i + 2, depth, body);
                    into.add(new Object[] {"times", n, body});
                }
                case "if" -> {
                    int f = number(ts.get(i + 1), 0, st.followers.size() - 1);
                    if (!ts.get(i + 2).text.equals("above")) {
                        throw new Fault(1, ts.get(i + 2).place);
                    }
                    int n = number(ts.get(i + 3), 0, 999);
                    List<Object[]> body = new ArrayList<>();
                    i = braces(ts, i + 4, depth, body);
                    into.add(new Object[] {"if", f, n, body});
                }
                default -> throw new Fault(1, t.place);
            }
        }
    }

    private int braces(List<Token> ts, int i, int depth, List<Object[]> body) throws Fault {
        if (!ts.get(i).text.equals("{")) {
            throw new Fault(1, ts.get(i).place);
        }
        if (depth == 5) {
            throw new Fault(3, ts.get(i).place);
        }
        return acts(ts, i + 1, depth + 1, body) + 1;
    }

    @SuppressWarnings("unchecked")
    private void run(List<Object[]> acts, List<Integer> row) {
        for (Object[] act : acts) {
            int height = row.get(row.size() - 1);
            if (row.size() >= st.steps) {
                return;
            }
            switch ((String) act[0]) {
                case "up" -> row.add(height + (Integer) act[1]);
                case "down" -> row.add(Math.max(0, height - (Integer) act[1]));
                case "hold" -> {
                    for (int i = 0; i < (Integer) act[1]; i++) {
                        row.add(height);
                    }
                }
                case "times" -> {
                    for (int i = 0; i < (Integer) act[1]; i++) {
                        int before = row.size();
                        run((List<Object[]>) act[2], row);
                        if (row.size() == before) {
                            break;
                        }
                    }
                }
                default -> {
                    if (liftOf((Integer) act[1], row.size() - 1) > (Integer) act[2]) {
                        run((List<Object[]>) act[3], row);
                    }
                }
            }
        }
    }

    public int motion() {
        if (st.lines == 0) {
            tape = "";
            return -2;
        }
        try {
            List<Object[]> acts = new ArrayList<>();
            acts(tokens(tape), 0, 0, acts);
            fault = 0;
            place = -1;
            tape = "";
            List<Integer> row = new ArrayList<>(List.of(0));
            run(acts, row);
            int come = Math.min(row.size(), st.steps) - 1;
            while (row.size() < st.steps) {
                row.add(row.get(row.size() - 1));
            }
            st.row = new ArrayList<>(row.subList(0, st.steps));
            return come;
        } catch (Fault f) {
            fault = f.which;
            place = f.place;
            return -4;
        }
    }

    public int fault(int what) {
        return what == 0 ? fault : what == 1 ? place : -1;
    }

    // ---- profiles and lifts

    private boolean isTrack(int t) {
        return t >= 0 && t < st.tracks;
    }

    private boolean isStep(int s) {
        return s >= 0 && s < st.steps;
    }

    private boolean isFollower(int f) {
        return f >= 0 && f < st.followers.size();
    }

    private boolean isNose(int n) {
        return n >= 0 && n < st.noses.size();
    }

    private boolean isPawl(int p) {
        return p >= 0 && p < st.pawls.size();
    }

    private int mod(int s) {
        return (s % st.steps + st.steps) % st.steps;
    }

    private int heightOf(int nose) {
        return st.broken.contains(nose) ? 0 : Math.max(0, st.noses.get(nose).high - st.worn.get(nose));
    }

    private int noseAt(int nose, int step) {
        Nose n = st.noses.get(nose);
        int nearest = 99;
        for (int k = 0; k < n.wide; k++) {
            int top = mod(n.at + k);
            nearest = Math.min(nearest, Math.min(mod(step - top), mod(top - step)));
        }
        return Math.max(0, heightOf(nose) - n.steep * nearest);
    }

    private int profileOf(int track, int step, int without) {
        int greatest = 0;
        for (int i = 0; i < st.noses.size(); i++) {
            if (i != without && st.noses.get(i).track == track) {
                greatest = Math.max(greatest, noseAt(i, step));
            }
        }
        return greatest;
    }

    private int over(int[] profile, int sort, int n, int step) {
        int greatest = 0;
        for (int d = -n; d <= n; d++) {
            greatest = Math.max(greatest, profile[mod(step + d)] - (sort == 1 ? d * d : 0));
        }
        return greatest;
    }

    private int[] profileRow(int track) {
        int[] p = new int[st.steps];
        for (int s = 0; s < st.steps; s++) {
            p[s] = profileOf(track, s, -1);
        }
        return p;
    }

    private int[] liftRow(int f) {
        Follower w = st.followers.get(f);
        int[] l = new int[st.steps];
        if (w.sort == 3) {
            int[] below = liftRow(w.on);
            for (int s = 0; s < st.steps; s++) {
                l[s] = Math.min(9999, below[s] * w.size / w.over);
            }
        } else {
            int[] p = profileRow(w.on);
            for (int s = 0; s < st.steps; s++) {
                l[s] = over(p, w.sort, w.size, s);
            }
        }
        return l;
    }

    private int liftOf(int f, int step) {
        return liftRow(f)[step];
    }

    public int profile(int track, int step) {
        return isTrack(track) && isStep(step) ? profileOf(track, step, -1) : -2;
    }

    public int lift(int follower, int step) {
        return isFollower(follower) && isStep(step) ? liftOf(follower, step) : -2;
    }

    public int steep(int track) {
        if (!isTrack(track)) {
            return -2;
        }
        int[] p = profileRow(track);
        int most = p[0] - p[st.steps - 1];
        for (int s = 0; s < st.steps - 1; s++) {
            most = Math.max(most, p[s + 1] - p[s]);
        }
        return most;
    }

    public int jams(int follower) {
        if (!isFollower(follower)) {
            return -2;
        }
        int[] l = liftRow(follower);
        for (int s = 0; s < st.steps; s++) {
            if (l[s] > l[mod(s - 1)] + st.jam) {
                return s;
            }
        }
        return -1;
    }

    public int covers(int track, int n) {
        if (!isTrack(track) || n < 0 || n > 60) {
            return -2;
        }
        return (int) Arrays.stream(profileRow(track)).filter(p -> p > n).count();
    }

    // ---- turning

    public int turn(int n) {
        if (st.lines == 0 || n < -600 || n > 600) {
            return -2;
        }
        List<int[]> lifts = new ArrayList<>();
        for (int f = 0; f < st.followers.size(); f++) {
            lifts.add(liftRow(f));
        }
        int took = 0;
        while (took < Math.abs(n) && step(n < 0 ? -1 : 1, lifts)) {
            took++;
        }
        return took;
    }

    private boolean step(int way, List<int[]> lifts) {
        boolean reversal = st.way != 0 && way != st.way;
        int nth = reversal ? 1 : st.sinceReversal + 1;
        boolean slack = (reversal || st.reversed) && nth <= st.slack;
        if (!slack) {
            int to = mod(st.angle + way);
            List<Integer> pos = st.past.get(st.past.size() - 1);
            for (int f = 0; f < pos.size(); f++) {
                if (st.followers.get(f).sort != 3 && lifts.get(f)[to] > pos.get(f) + st.jam) {
                    st.jams++;
                    st.jammedBy = f;
                    return false;
                }
            }
            st.angle += way;
            List<Integer> next = new ArrayList<>();
            for (int f = 0; f < pos.size(); f++) {
                Follower w = st.followers.get(f);
                int p = w.sort == 3 ? Math.min(9999, next.get(w.on) * w.size / w.over)
                    : Math.max(lifts.get(f)[to], pos.get(f) - w.spring);
                if (w.sort != 3 && p > pos.get(f)) {
                    st.work += p - pos.get(f);
                }
                next.add(p);
            }
            st.past.add(next);
            for (int p = 0; p < st.pawls.size(); p++) {
                Pawl w = st.pawls.get(p);
                if (pos.get(w.on) < w.at && next.get(w.on) >= w.at) {
                    st.counts.set(p, (st.counts.get(p) + 1) % w.teeth);
                }
            }
        }
        st.taken++;
        st.way = way;
        st.reversed |= reversal;
        st.sinceReversal = nth;
        return true;
    }

    public int follower(int follower, int what) {
        if (!isFollower(follower) || what < 0 || what > 4) {
            return -2;
        }
        int last = st.past.size() - 1;
        return switch (what) {
            case 0 -> st.past.get(last).get(follower);
            case 1 -> st.past.get(Math.max(0, last - st.followers.get(follower).lag)).get(follower);
            case 2 -> liftOf(follower, mod(st.angle));
            case 3 -> st.followers.get(follower).sort;
            default -> st.jammedBy == follower ? 1 : 0;
        };
    }

    private int second(int angle) {
        return st.steps == 0 ? 0 : st.gear == null ? mod(angle) : mod(angle * st.gear[0] / st.gear[1]);
    }

    public int stands(int what) {
        return switch (what) {
            case 0 -> st.angle;
            case 1 -> st.taken;
            case 2 -> st.work;
            case 3 -> st.reversed ? Math.max(0, st.slack - st.sinceReversal) : 0;
            case 4 -> second(st.angle);
            case 5 -> st.jams;
            default -> -1;
        };
    }

    public int pawl(int pawl) {
        return isPawl(pawl) ? st.counts.get(pawl) : -2;
    }

    // ---- steady

    private int[] steadyRow(int f) {
        Follower w = st.followers.get(f);
        int[] p = new int[st.steps];
        if (w.sort == 3) {
            int[] below = steadyRow(w.on);
            for (int s = 0; s < st.steps; s++) {
                p[s] = Math.min(9999, below[s] * w.size / w.over);
            }
            return p;
        }
        int[] l = liftRow(f);
        for (int s = 0; s < st.steps; s++) {
            for (int k = 0; k < 3 * st.steps; k++) {
                p[s] = Math.max(p[s], l[mod(s - k)] - k * w.spring);
            }
        }
        return p;
    }

    public int steady(int follower, int step) {
        return isFollower(follower) && isStep(step) ? steadyRow(follower)[step] : -2;
    }

    public int leaves(int follower, int what) {
        if (!isFollower(follower) || what < 0 || what > 1) {
            return -2;
        }
        int[] l = liftRow(follower);
        int[] p = steadyRow(follower);
        List<Integer> left = new ArrayList<>();
        for (int s = 0; s < st.steps; s++) {
            if (p[s] > l[s]) {
                left.add(s);
            }
        }
        return what == 0 ? left.size() : left.isEmpty() ? -1 : left.get(0);
    }

    public int spring(int follower) {
        if (!isFollower(follower)) {
            return -2;
        }
        Follower w = st.followers.get(follower);
        for (int k = 1; k <= 60 && w.sort != 3; k++) {
            st.followers.set(follower, new Follower(w.sort, w.on, w.size, w.over, k, w.lag));
            int left = leaves(follower, 0);
            st.followers.set(follower, w);
            if (left == 0) {
                return k;
            }
        }
        return -1;
    }

    public int work() {
        if (st.lines == 0) {
            return -2;
        }
        int sum = 0;
        for (int f = 0; f < st.followers.size(); f++) {
            if (st.followers.get(f).sort != 3) {
                int[] p = steadyRow(f);
                for (int s = 0; s < st.steps; s++) {
                    sum += Math.max(0, p[mod(s + 1)] - p[s]);
                }
            }
        }
        return sum;
    }

    public int clicks(int pawl) {
        if (!isPawl(pawl)) {
            return -2;
        }
        Pawl w = st.pawls.get(pawl);
        int[] p = steadyRow(w.on);
        int many = 0;
        for (int s = 0; s < st.steps; s++) {
            if (p[s] < w.at && p[mod(s + 1)] >= w.at) {
                many++;
            }
        }
        return many;
    }

    public int same() {
        if (st.lines == 0) {
            return -2;
        }
        int[] clicks = new int[st.pawls.size()];
        for (int p = 0; p < clicks.length; p++) {
            clicks[p] = clicks(p);
        }
        for (int t = 1; t <= 9999; t++) {
            boolean all = second(t * st.steps) == 0;
            for (int p = 0; p < clicks.length; p++) {
                all &= clicks[p] * t % st.pawls.get(p).teeth == 0;
            }
            if (all) {
                return t;
            }
        }
        return -1;
    }

    // ---- noses

    public int wear(int nose, int w) {
        if (!isNose(nose) || w < 0 || w > 60) {
            return -2;
        }
        return st.worn.set(nose, Math.min(w, st.noses.get(nose).high));
    }

    public int breaks(int nose, boolean is) {
        if (!isNose(nose)) {
            return -2;
        }
        int was = st.broken.remove(nose) ? 1 : 0;
        if (is) {
            st.broken.add(nose);
        }
        return was;
    }

    public int nose(int nose, int what) {
        if (!isNose(nose) || what < 0 || what > 5) {
            return -2;
        }
        Nose n = st.noses.get(nose);
        return new int[] {n.track, n.at, n.wide, heightOf(nose), n.steep, st.worn.get(nose)}[what];
    }

    public int spare() {
        if (st.lines == 0) {
            return -2;
        }
        int bits = 0;
        for (int i = 0; i < st.noses.size(); i++) {
            boolean needed = false;
            for (int s = 0; s < st.steps; s++) {
                int track = st.noses.get(i).track;
                needed |= profileOf(track, s, -1) != profileOf(track, s, i);
            }
            bits |= needed ? 0 : 1 << i;
        }
        return bits;
    }

    public int meet(int one, int other) {
        if (!isNose(one) || !isNose(other) || one == other) {
            return -2;
        }
        boolean meet = false;
        for (int s = 0; s < st.steps; s++) {
            meet |= noseAt(one, s) > 0 && noseAt(other, s) > 0 && st.noses.get(one).track == st.noses.get(other).track;
        }
        return meet ? 1 : 0;
    }

    // ---- rows

    private boolean isSort(int sort, int n) {
        return sort == 0 && n == 0 || (sort == 1 || sort == 2) && n >= 0 && n <= 9;
    }

    private int[] cutRow(int sort, int n) {
        int[] c = new int[st.steps];
        for (int s = 0; s < st.steps; s++) {
            c[s] = Integer.MAX_VALUE;
            for (int d = -n; d <= n; d++) {
                c[s] = Math.min(c[s], st.row.get(mod(s + d)) + (sort == 1 ? d * d : 0));
            }
        }
        return c;
    }

    public int rowAt(int step) {
        return !isStep(step) ? -2 : st.row == null ? -6 : st.row.get(step);
    }

    public int cut(int sort, int n, int step) {
        return !isStep(step) || !isSort(sort, n) ? -2 : st.row == null ? -6 : cutRow(sort, n)[step];
    }

    public int brings(int sort, int n) {
        if (st.lines == 0 || !isSort(sort, n)) {
            return -2;
        }
        if (st.row == null) {
            return -6;
        }
        int[] c = cutRow(sort, n);
        for (int s = 0; s < st.steps; s++) {
            if (over(c, sort, n, s) != st.row.get(s)) {
                return s;
            }
        }
        return -1;
    }

    public int widest(int sort) {
        if (st.lines == 0 || sort < 1 || sort > 2) {
            return -2;
        }
        if (st.row == null) {
            return -6;
        }
        int widest = -1;
        for (int n = 0; n <= 9; n++) {
            widest = brings(sort, n) == -1 ? n : widest;
        }
        return widest;
    }

    public int hard(int what) {
        if (st.lines == 0 || what < 0 || what > 60) {
            return -2;
        }
        if (st.row == null) {
            return -6;
        }
        for (int s = 0; s < st.steps; s++) {
            int rise = st.row.get(s) - st.row.get(mod(s - 1));
            if (what == 0 ? rise > st.jam : -rise > what) {
                return s;
            }
        }
        return -1;
    }

    public int differs(int follower) {
        if (!isFollower(follower)) {
            return -2;
        }
        if (st.row == null) {
            return -6;
        }
        int[] p = steadyRow(follower);
        for (int s = 0; s < st.steps; s++) {
            if (p[s] != st.row.get(s)) {
                return s;
            }
        }
        return -1;
    }

    private int away(int[] p, int shift) {
        int sum = 0;
        for (int s = 0; s < st.steps; s++) {
            sum += Math.abs(st.row.get(s) - p[mod(s + shift)]);
        }
        return sum;
    }

    public int phase(int follower) {
        if (!isFollower(follower)) {
            return -2;
        }
        if (st.row == null) {
            return -6;
        }
        int[] p = steadyRow(follower);
        for (int shift = 0; shift < st.steps; shift++) {
            if (away(p, shift) == 0) {
                return shift;
            }
        }
        return -1;
    }

    public int nearest() {
        if (st.lines == 0) {
            return -2;
        }
        if (st.row == null) {
            return -6;
        }
        int best = -1;
        int least = Integer.MAX_VALUE;
        for (int f = 0; f < st.followers.size(); f++) {
            int[] p = steadyRow(f);
            for (int shift = 0; shift < st.steps; shift++) {
                if (away(p, shift) < least) {
                    least = away(p, shift);
                    best = f;
                }
            }
        }
        return best;
    }

    // ---- room

    private int roomState(int slot) {
        if (slot < 0 || slot > 3 || st.lines == 0) {
            return -2;
        }
        if (!rows.containsKey(slot) || rows.get(slot).length == 0) {
            return -6;
        }
        boolean good = rows.get(slot).length <= 8;
        for (long v : rows.get(slot)) {
            good &= v >= 1 && v <= st.steps;
        }
        return good ? 0 : -2;
    }

    /** The least row of tracks, by going through all rows in their order. */
    private int[] bestRow(int slot) {
        long[] sizes = rows.get(slot);
        int n = sizes.length;
        for (int k = 1; ; k++) {
            int[] row = new int[n];
            while (true) {
                long[] load = new long[k];
                boolean fits = true;
                for (int i = 0; i < n; i++) {
                    load[row[i]] += sizes[i];
                    fits &= load[row[i]] <= st.steps;
                }
                if (fits) {
                    return row;
                }
                int i = n - 1;
                while (i >= 0 && row[i] == k - 1) {
                    row[i] = 0;
                    i--;
                }
                if (i < 0) {
                    break;
                }
                row[i]++;
            }
        }
    }

    public int fewest(int slot) {
        int state = roomState(slot);
        return state != 0 ? state : Arrays.stream(bestRow(slot)).max().getAsInt() + 1;
    }

    public int place(int slot, int i) {
        int state = roomState(slot);
        return state != 0 ? state : i < 0 || i >= rows.get(slot).length ? -2 : bestRow(slot)[i];
    }

    public int clash(int slot) {
        int state = roomState(slot);
        if (state != 0) {
            return state;
        }
        // The greatest ones clash most: take them in their order, as long as the two least of them clash.
        long[] sizes = rows.get(slot).clone();
        Arrays.sort(sizes);
        int many = 1;
        for (int i = sizes.length - 2; i >= 0 && sizes[i] + sizes[i + 1] > st.steps; i--) {
            many++;
        }
        return many;
    }

    // ---- heard

    private Set<Integer> heardSet(int f, int height) {
        int[] p = steadyRow(f);
        Set<Integer> set = new HashSet<>();
        for (int s = 0; s < st.steps; s++) {
            if (p[mod(s - 1)] >= height && p[s] < height) {
                set.add(s);
            }
        }
        return set;
    }

    public long heard(int follower, int height) {
        if (!isFollower(follower) || height < 1 || height > 99) {
            return -2;
        }
        long bits = 0;
        for (int s : heardSet(follower, height)) {
            bits |= 1L << s;
        }
        return bits;
    }

    private int heardState(int follower, int height, int slot, int what) {
        if (!isFollower(follower) || height < 1 || height > 99 || slot < 0 || slot > 3 || what < 0 || what > 3) {
            return -2;
        }
        if (!rows.containsKey(slot)) {
            return -6;
        }
        for (long v : rows.get(slot)) {
            if (v < 0 || v >= st.steps) {
                return -2;
            }
        }
        return 0;
    }

    /** Faults as {nose, wear}: wear 0 is broken, nose -1 is none. */
    private List<int[]> faultsOf(int follower, int height, int slot) {
        Set<Integer> wanted = new HashSet<>();
        for (long v : rows.get(slot)) {
            wanted.add((int) v);
        }
        List<int[]> all = new ArrayList<>(List.of(new int[] {-1, 0}));
        for (int i = 0; i < st.noses.size(); i++) {
            all.add(new int[] {i, 0});
            for (int w = 1; w <= Math.min(9, st.noses.get(i).high); w++) {
                all.add(new int[] {i, w});
            }
        }
        State now = st;
        List<int[]> good = new ArrayList<>();
        for (int[] fault : all) {
            st = now.copy();
            st.broken.clear();
            st.worn.replaceAll(w -> 0);
            if (fault[0] >= 0 && fault[1] == 0) {
                st.broken.add(fault[0]);
            } else if (fault[0] >= 0) {
                st.worn.set(fault[0], fault[1]);
            }
            if (heardSet(follower, height).equals(wanted)) {
                good.add(fault);
            }
        }
        st = now;
        return good;
    }

    public int faults(int follower, int height, int slot) {
        int state = heardState(follower, height, slot, 0);
        return state != 0 ? state : faultsOf(follower, height, slot).size();
    }

    public int guess(int follower, int height, int slot, int what) {
        int state = heardState(follower, height, slot, what);
        if (state != 0) {
            return state;
        }
        int broken = 0;
        int worn = 0;
        int whole = 0;
        int least = 0;
        for (int[] f : faultsOf(follower, height, slot)) {
            if (f[0] < 0) {
                whole = 1;
            } else if (f[1] == 0) {
                broken |= 1 << f[0];
            } else {
                worn |= 1 << f[0];
                least = least == 0 || f[1] < least ? f[1] : least;
            }
        }
        return new int[] {broken, worn, whole, least}[what];
    }

    public int margin(int nose, int follower, int height) {
        if (!isNose(nose) || !isFollower(follower) || height < 1 || height > 99) {
            return -2;
        }
        int was = st.worn.set(nose, 0);
        Set<Integer> first = heardSet(follower, height);
        int most = 0;
        for (int w = 1; w <= st.noses.get(nose).high; w++) {
            st.worn.set(nose, w);
            if (!heardSet(follower, height).equals(first)) {
                break;
            }
            most = w;
        }
        st.worn.set(nose, was);
        return most;
    }

    // ---- years

    private static boolean areYears(int seed, int n, int odds) {
        return seed >= 0 && seed <= 2000000000 && n >= 1 && n <= 60 && odds >= 0 && odds <= 100;
    }

    private java.math.BigInteger year(java.math.BigInteger x, int odds) {
        for (int i = 0; i < st.noses.size(); i++) {
            x = x.multiply(java.math.BigInteger.valueOf(1103515245)).add(java.math.BigInteger.valueOf(12345))
                .mod(java.math.BigInteger.valueOf(2147483648L));
            if (x.longValue() / 65536 % 100 < odds) {
                st.worn.set(i, Math.min(st.worn.get(i) + 1, st.noses.get(i).high));
            }
        }
        return x;
    }

    public int years(int seed, int n, int odds) {
        if (st.lines == 0 || !areYears(seed, n, odds)) {
            return -2;
        }
        int before = st.worn.stream().mapToInt(w -> w).sum();
        java.math.BigInteger x = java.math.BigInteger.valueOf(seed);
        for (int y = 0; y < n; y++) {
            x = year(x, odds);
        }
        return st.worn.stream().mapToInt(w -> w).sum() - before;
    }

    public int until(int follower, int height, int seed, int n, int odds) {
        if (!isFollower(follower) || height < 1 || height > 99 || !areYears(seed, n, odds)) {
            return -2;
        }
        State now = st;
        st = now.copy();
        Set<Integer> first = heardSet(follower, height);
        java.math.BigInteger x = java.math.BigInteger.valueOf(seed);
        int found = -1;
        for (int y = 1; y <= n && found < 0; y++) {
            x = year(x, odds);
            found = heardSet(follower, height).equals(first) ? -1 : y;
        }
        st = now;
        return found;
    }

    // ---- counts, images, slots

    public int count(int what) {
        int bits = 0;
        for (int b : st.broken) {
            bits |= 1 << b;
        }
        int[] all = {st.steps, st.tracks, st.noses.size(), st.followers.size(), st.pawls.size(), st.lines, tape.length(), st.jam, st.slack,
            st.row == null ? 0 : 1, bits, rows.size()};
        return what < 0 || what >= all.length ? -1 : all[what];
    }

    public int keep(int k) {
        if (k < 0 || k > 2) {
            return -2;
        }
        images.put(k, st.copy());
        return 0;
    }

    public int back(int k) {
        if (k < 0 || k > 2) {
            return -2;
        }
        if (!images.containsKey(k)) {
            return -6;
        }
        st = images.get(k).copy();
        return 0;
    }

    public int row(int slot, int width, int n) {
        if (slot < 0 || slot > 3 || width < 0 || width > 3 || n > 60) {
            return -2;
        }
        if (n < 0) {
            return -3;
        }
        rows.put(slot, new long[n]);
        widths.put(slot, width);
        return 0;
    }

    public int write(int slot, int i, long v) {
        if (slot < 0 || slot > 3) {
            return -2;
        }
        if (!rows.containsKey(slot)) {
            return -6;
        }
        if (i < 0 || i >= rows.get(slot).length) {
            return -7;
        }
        int bits = 64 - (8 << widths.get(slot));
        rows.get(slot)[i] = v << bits >> bits;
        return 0;
    }

    public int paste(int slot, int i, int to, int k, int n) {
        if (slot < 0 || slot > 3 || to < 0 || to > 3) {
            return -2;
        }
        if (!rows.containsKey(slot) || !rows.containsKey(to)) {
            return -6;
        }
        if (!widths.get(slot).equals(widths.get(to))) {
            return -8;
        }
        long[] from = rows.get(slot).clone();
        long[] into = rows.get(to);
        if (i < 0 || k < 0 || n < 0 || (long) i + n > from.length || (long) k + n > into.length) {
            return -7;
        }
        for (int j = 0; j < n; j++) {
            into[k + j] = from[i + j];
        }
        return 0;
    }
}
