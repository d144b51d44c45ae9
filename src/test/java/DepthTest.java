import java.io.IOException;
import java.nio.file.Files;
import java.nio.file.Path;
import java.util.ArrayList;
import java.util.HashMap;
import java.util.LinkedHashMap;
import java.util.List;
import java.util.Map;
import java.util.Set;
import java.util.TreeSet;
import java.util.regex.Matcher;
import java.util.regex.Pattern;

/** Rules 4, 8, 9, 11 and 12 of LANGUAGE.md as far as the text shows them: who calls whom, how deep, what is made where. */
public final class DepthTest {
    private static final int MOST_DEEP = 8;
    private static final Set<String> LIBRARY = Set.of("Math", "Integer", "System", "String");
    private static final Set<String> MEMBERS = Set.of("Math.max", "Math.min", "Math.abs", "Math.floorMod", "Integer.bitCount", "System.arraycopy");

    private static final Pattern CLASS = Pattern.compile("( {4})?(?:public|private static) final class (\\w+) \\{");
    private static final Pattern METHOD = Pattern.compile("( {4}| {8})(?:public |private )?(?:static )?(?:(?:\\w+)(?:\\[\\])* )?(\\w+)\\([^;=]*\\) \\{");
    private static final Pattern CALL = Pattern.compile("(?:(\\w+(?:\\[\\w+\\])?(?:\\.\\w+)*)\\.)?\\b([a-z]\\w*)\\(");
    private static final Set<String> HEADS = Set.of("if", "for", "while", "switch", "return", "super", "this");

    /** Bodies of methods, by class and name. */
    private static final Map<String, String> BODIES = new LinkedHashMap<>();
    private static final Map<String, String> TYPES = new HashMap<>();
    private static final Set<String> CLASSES = new TreeSet<>();
    private static final Map<String, Integer> DEPTHS = new HashMap<>();

    public static void main(String[] args) throws IOException {
        List<String> lines = Files.readAllLines(Path.of("src/main/java/NoseDrum.java"));
        read(lines);
        String text = String.join("\n", lines).replaceAll("(?s)/\\*.*?\\*/", "").replaceAll("//.*", "");
        types(text);
        Check.due("classes", CLASSES.size(), 12);
        Check.due("methods", BODIES.size() > 150 ? 1 : 0, 1);
        for (String method : BODIES.keySet()) {
            Check.due(method + " goes too deep", depth(method, new ArrayList<>()) <= MOST_DEEP ? 1 : 0, 1);
            boolean makes = BODIES.get(method).contains("new ");
            Check.due(method + " makes objects", makes && !method.equals("NoseDrum.NoseDrum") ? 1 : 0, 0);
        }
        library(text);
        loops(text);
        Check.finish();
    }

    private static void read(List<String> lines) {
        String outer = "NoseDrum";
        String now = outer;
        for (int i = 0; i < lines.size(); i++) {
            String line = lines.get(i);
            Matcher c = CLASS.matcher(line);
            Matcher m = METHOD.matcher(line);
            if (c.matches()) {
                now = c.group(2);
                CLASSES.add(now);
            } else if (line.equals("    }") && !now.equals(outer)) {
                now = outer;
            } else if (m.matches() && !HEADS.contains(m.group(2)) && (m.group(1).length() == 4) == now.equals(outer)) {
                StringBuilder body = new StringBuilder();
                String end = m.group(1) + "}";
                for (i++; i < lines.size() && !lines.get(i).equals(end); i++) {
                    body.append(lines.get(i).replaceFirst("^ *//.*", "")).append('\n');
                }
                Check.due(now + "." + m.group(2) + " is there twice", BODIES.put(now + "." + m.group(2), body.toString()) == null ? 1 : 0, 1);
            }
        }
    }

    /** A name always stands for one class, in fields and parameters alike, or no method is called by it. */
    private static void types(String text) {
        Matcher m = Pattern.compile("\\b(" + String.join("|", CLASSES) + ")(?:\\[\\])? (\\w+)").matcher(text);
        while (m.find()) {
            TYPES.merge(m.group(2), m.group(1), (one, other) -> one.equals(other) ? one : "two classes");
        }
    }

    private static Set<String> called(String method) {
        String owner = method.substring(0, method.indexOf('.'));
        Set<String> found = new TreeSet<>();
        Matcher m = CALL.matcher(BODIES.get(method));
        while (m.find()) {
            if (HEADS.contains(m.group(2)) || m.group(1) != null && LIBRARY.contains(m.group(1)) || m.group(2).equals("length") || m.group(2).equals("charAt")) {
                continue;
            }
            String on = m.group(1) == null ? owner : TYPES.get(m.group(1).replaceAll("\\[\\w*\\]", "").replaceFirst(".*\\.", ""));
            Check.due(method + " calls what is not there: " + m.group(), on != null && BODIES.containsKey(on + "." + m.group(2)) ? 1 : 0, 1);
            found.add(on + "." + m.group(2));
        }
        return found;
    }

    /** How many calls stand open at once, this one counted; a method that calls itself counts once. */
    private static int depth(String method, List<String> open) {
        if (DEPTHS.containsKey(method)) {
            return DEPTHS.get(method);
        }
        int deepest = 0;
        open.add(method);
        for (String next : called(method)) {
            boolean self = next.equals(method);
            Check.due(method + " is called from itself over " + next, open.contains(next) && !self ? 1 : 0, 0);
            if (!open.contains(next) && BODIES.containsKey(next)) {
                deepest = Math.max(deepest, depth(next, open));
            }
        }
        open.remove(method);
        DEPTHS.put(method, deepest + 1);
        return deepest + 1;
    }

    private static void library(String text) {
        Matcher m = Pattern.compile("\\b([A-Z]\\w*[a-z]\\w*)(\\.\\w+)?").matcher(text.replaceAll("\"[^\"]*\"", ""));
        while (m.find()) {
            boolean own = CLASSES.contains(m.group(1));
            Check.due(m.group() + " is no own class and not listed", own || LIBRARY.contains(m.group(1)) ? 1 : 0, 1);
            if (!own && m.group(2) != null) {
                Check.due(m.group() + " is not listed", MEMBERS.contains(m.group()) ? 1 : 0, 1);
            }
        }
    }

    /** A counter against a bound stands in the loop's own lines. */
    private static void loops(String text) {
        Matcher m = Pattern.compile("\\b(while|for) ?\\(([^{]*)\\{").matcher(text);
        int many = 0;
        while (m.find()) {
            Check.due("no bound is seen in " + m.group(), m.group(2).matches("(?s).*[<>]=? .*") ? 1 : 0, 1);
            many++;
        }
        Check.due("loops", many > 60 ? 1 : 0, 1);
        Check.due("do", text.matches("(?s).*\\bdo \\{.*") ? 1 : 0, 0);
    }
}
