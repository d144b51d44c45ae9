import java.lang.reflect.Method;
import java.util.ArrayList;
import java.util.Comparator;
import java.util.List;
import java.util.Map;
import java.util.Random;
import java.util.function.IntUnaryOperator;
import java.util.regex.Matcher;
import java.util.regex.Pattern;

/** Drums, motions and calls by draws, for the tests that try many of them. */
final class Draws {
    private static final String[] SCRAPS = {"drum", "track", "nose", "knife", "roller", "flat", "lever", "pawl", "gear", "on", "at", "wide",
        "high", "steep", "spring", "lag", "over", "teeth", "to", "up", "down", "hold", "times", "if", "above", ";", "{", "}", " ", "\n", "0",
        "1", "61", "100", "1000", "99999999999", ".", "A", "\t", "\u00ff", "#", "x"};

    private static final int[] EDGES = {0, 1, 2, 3, 4, 5, 6, 7, 8, 9, 10, 11, 12, 15, 16, 17, 19, 20, 21, 29, 30, 31, 59, 60, 61, 98, 99, 100, 998, 999, 1000};

    final Random random;

    Draws(long seed) {
        random = new Random(seed);
    }

    /** The methods of the face in an order that does not hang on the machine. */
    static List<Method> face() {
        List<Method> face = new ArrayList<>();
        for (Method m : NoseDrum.class.getDeclaredMethods()) {
            if (java.lang.reflect.Modifier.isPublic(m.getModifiers())) {
                face.add(m);
            }
        }
        face.sort(Comparator.comparing(Method::getName));
        return face;
    }

    int upTo(int most) {
        return random.nextInt(most + 1);
    }

    int from(int least, int most) {
        return least + random.nextInt(most - least + 1);
    }

    boolean once(int in) {
        return random.nextInt(in) == 0;
    }

    String drum() {
        int steps = once(4) ? from(4, 60) : from(4, 16);
        int tracks = once(5) ? 6 : from(1, 3);
        int high = once(2) ? 60 : 9;
        StringBuilder text = new StringBuilder("drum steps " + steps + " jam " + (once(3) ? from(1, 4) : from(5, 60)) + " slack " + upTo(once(2) ? 9 : 2) + ";");
        for (int t = 0; t < tracks; t++) {
            text.append(once(3) ? "track;\n" : "track;");
        }
        int noses = once(6) ? 24 : upTo(6);
        for (int i = 0; i < noses; i++) {
            text.append("nose on ").append(upTo(tracks - 1)).append(" at ").append(upTo(steps - 1)).append(" wide ")
                .append(once(9) ? steps : from(1, 3)).append(" high ").append(from(1, high)).append(" steep ").append(from(1, once(2) ? 60 : 3)).append(';');
        }
        int followers = once(6) ? 10 : upTo(5);
        for (int f = 0; f < followers; f++) {
            text.append(follower(f, tracks));
        }
        for (int p = upTo(4); p > 0 && followers > 0; p--) {
            text.append("pawl on ").append(upTo(followers - 1)).append(" at ").append(from(1, once(3) ? 99 : 9)).append(" teeth ").append(from(2, 30)).append(';');
        }
        if (once(2)) {
            text.append("gear ").append(from(1, 60)).append(" to ").append(from(1, once(2) ? 60 : 3)).append(';');
        }
        return text.length() > 1600 ? drum() : text.toString();
    }

    private String follower(int f, int tracks) {
        int sort = f == 0 ? upTo(2) : upTo(3);
        if (sort == 3) {
            return "lever on " + upTo(f - 1) + " " + from(1, 9) + " over " + from(1, 9) + ";";
        }
        String head = sort == 0 ? "knife" : (sort == 1 ? "roller " : "flat ") + (once(2) ? upTo(9) : upTo(2));
        return head + " on " + upTo(tracks - 1) + " spring " + from(1, once(2) ? 60 : 3) + " lag " + upTo(20) + ";";
    }

    String motion(int depth, int followers) {
        StringBuilder text = new StringBuilder();
        for (int i = upTo(6); i > 0; i--) {
            int kind = upTo(depth > 0 ? 5 : 3);
            if (kind == 4) {
                text.append("times ").append(from(2, once(4) ? 60 : 4)).append(" {").append(motion(depth - 1, followers)).append('}');
            } else if (kind == 5 && followers > 0) {
                text.append("if ").append(upTo(followers - 1)).append(" above ").append(once(3) ? upTo(999) : upTo(9)).append('{')
                    .append(motion(depth - 1, followers)).append("} ");
            } else {
                String[] moves = {"up ", "down ", "hold "};
                text.append(moves[kind % 3]).append(from(1, once(3) ? 60 : 5)).append(once(3) ? " ;" : ";");
            }
        }
        return text.toString();
    }

    /** A text as it may be told wrong; a number at an edge, or a line told often, may be right all the same. */
    String spoilt(String text) {
        StringBuilder s = new StringBuilder(text);
        for (int i = from(1, 2); i > 0; i--) {
            int at = upTo(s.length());
            switch (upTo(6)) {
                case 0 -> s.insert(at, SCRAPS[upTo(SCRAPS.length - 1)]);
                case 1 -> s.delete(at, Math.min(s.length(), at + from(1, 4)));
                case 2 -> s.setLength(at);
                case 3, 4 -> otherNumber(s);
                case 5 -> lineAgain(s);
                default -> {
                    s.delete(at, Math.min(s.length(), at + 1));
                    s.insert(at, SCRAPS[upTo(SCRAPS.length - 1)]);
                }
            }
        }
        return s.length() > 1600 ? text : s.toString();
    }

    private void otherNumber(StringBuilder s) {
        List<int[]> places = new ArrayList<>();
        Matcher m = Pattern.compile("[0-9]+").matcher(s);
        while (m.find()) {
            places.add(new int[] {m.start(), m.end()});
        }
        if (!places.isEmpty()) {
            int[] place = places.get(upTo(places.size() - 1));
            s.replace(place[0], place[1], Integer.toString(EDGES[upTo(EDGES.length - 1)]));
        }
    }

    /** As often as there may be such lines, or once more. */
    private void lineAgain(StringBuilder s) {
        int end = s.lastIndexOf(";") + 1;
        int begin = Math.max(s.lastIndexOf(";", end - 2), s.lastIndexOf("}", end - 2)) + 1;
        String line = once(3) ? "track;" : s.substring(Math.min(begin, end), end);
        s.insert(end, line.repeat(once(2) ? 1 : from(2, 11)));
    }

    /**
     * What each number of a call means: t track, s step, f follower, n nose, p pawl, l slot, h height, w what or width,
     * z size of a roller, o sort, c number of a row, k image, T turning, W wear, S seed, Y years, O odds, R numbers in a row, B bytes.
     */
    private static final Map<String, String> MEANING = Map.ofEntries(Map.entry("profile", "ts"), Map.entry("lift", "fs"), Map.entry("steep", "t"),
        Map.entry("jams", "f"), Map.entry("covers", "tW"), Map.entry("turn", "T"), Map.entry("follower", "fw"), Map.entry("pawl", "p"),
        Map.entry("steady", "fs"), Map.entry("leaves", "fo"), Map.entry("spring", "f"), Map.entry("clicks", "p"), Map.entry("wear", "nW"),
        Map.entry("breaks", "n."), Map.entry("nose", "nw"), Map.entry("meet", "nn"), Map.entry("rowAt", "s"), Map.entry("cut", "ozs"),
        Map.entry("brings", "oz"), Map.entry("widest", "o"), Map.entry("hard", "W"), Map.entry("differs", "f"), Map.entry("phase", "f"),
        Map.entry("fewest", "l"), Map.entry("place", "lc"), Map.entry("clash", "l"), Map.entry("heard", "fh"), Map.entry("faults", "fhl"),
        Map.entry("guess", "fhlk"), Map.entry("margin", "nfh"), Map.entry("years", "SYO"), Map.entry("until", "fhSYO"), Map.entry("keep", "k"),
        Map.entry("back", "k"), Map.entry("row", "lkR"), Map.entry("write", "lc."), Map.entry("paste", "lclcc"), Map.entry("end", "B"),
        Map.entry("stands", "w"), Map.entry("fault", "k"));

    /** The counts say what there is: those of the object or of the model, if the object's calls are counted. */
    Object[] arguments(Method m, IntUnaryOperator counts) {
        Class<?>[] kinds = m.getParameterTypes();
        String meaning = MEANING.getOrDefault(m.getName(), "......");
        Object[] arguments = new Object[kinds.length];
        for (int i = 0; i < kinds.length; i++) {
            if (kinds[i] == boolean.class) {
                arguments[i] = once(3);
            } else if (kinds[i] == long.class) {
                arguments[i] = once(9) ? random.nextLong() : (long) upTo(Math.max(4, counts.applyAsInt(0)));
            } else {
                arguments[i] = number(meaning.charAt(i), counts);
            }
        }
        return arguments;
    }

    private int number(char meaning, IntUnaryOperator counts) {
        if (once(60)) {
            return random.nextInt();
        }
        if (once(60)) {
            return -1;
        }
        if (once(40)) {
            int[] edges = {Integer.MIN_VALUE, Integer.MAX_VALUE, -1, 60, 61, 99, 100, 600, 601, -600, -601, 2000000000, 2000000001, 9, 10};
            return edges[upTo(edges.length - 1)];
        }
        int beyond = once(12) ? 0 : 1;
        return switch (meaning) {
            case 't' -> upTo(Math.max(0, counts.applyAsInt(1) - beyond));
            case 's' -> upTo(Math.max(0, counts.applyAsInt(0) - beyond));
            case 'f' -> upTo(Math.max(0, counts.applyAsInt(3) - beyond));
            case 'n' -> upTo(Math.max(0, counts.applyAsInt(2) - beyond));
            case 'p' -> upTo(Math.max(0, counts.applyAsInt(4) - beyond));
            case 'l', 'k' -> upTo(4 - beyond);
            case 'w' -> upTo(6 - beyond);
            case 'o' -> upTo(3 - beyond);
            case 'z' -> once(4) ? 0 : upTo(10 - beyond);
            case 'h' -> once(4) ? from(1, 99) : from(1, 9);
            case 'T' -> once(4) ? from(-600, 600) : from(-30, 30);
            case 'W' -> once(2) ? upTo(9) : upTo(61);
            case 'S' -> random.nextInt(2000000001);
            case 'Y' -> once(2) ? from(1, 9) : from(1, 61);
            case 'O' -> once(2) ? upTo(9) : upTo(101);
            case 'R' -> once(9) ? from(-1, 61) : upTo(9);
            case 'B' -> upTo(Math.max(0, counts.applyAsInt(6)));
            case 'c' -> upTo(once(3) ? 8 : 4);
            default -> upTo(12);
        };
    }
}
