import java.io.IOException;
import java.lang.reflect.Field;
import java.lang.reflect.Method;
import java.lang.reflect.Modifier;
import java.nio.file.Files;
import java.nio.file.Path;
import java.util.HashSet;
import java.util.List;
import java.util.Set;
import java.util.TreeSet;

/** The rules of LANGUAGE.md that the text and the compiled class show. */
public final class LanguageTest {
    private static final String FACE = "feed end drum motion fault profile lift steep jams covers turn follower stands pawl steady leaves spring work clicks"
        + " same wear breaks nose spare meet rowAt cut brings widest hard differs phase nearest fewest place clash heard faults guess margin years until count"
        + " keep back row write paste";
    private static final String[] BARRED = {"\\bthrow\\b", "\\bthrows\\b", "\\btry\\b", "\\bcatch\\b", "\\bfinally\\b", "\\bsynchronized\\b", "\\bassert\\b",
        "->", "::", "\\bpackage\\b", "\\bimport\\b", "\\bvar\\b", "\\bvolatile\\b", "\\bnative\\b", "Exact\\b", "\\bObject\\b", "\\bSystem\\.(?!arraycopy)",
        "\\bhashCode\\b", "\\btoString\\b", "\\bRandom\\b", "\\bprotected\\b", "\\bgoto\\b", "\" \\+", "\\+ \""};

    public static void main(String[] args) throws IOException {
        List<String> lines = Files.readAllLines(Path.of("src/main/java/NoseDrum.java"));
        barred(lines);
        lengths(lines);
        face();
        inside();
        Check.finish();
    }

    private static void barred(List<String> lines) {
        for (int i = 0; i < lines.size(); i++) {
            String line = lines.get(i);
            String code = line.strip().startsWith("*") || line.strip().startsWith("/*") || line.strip().startsWith("//") ? "" : line;
            for (String word : BARRED) {
                Check.due("line " + (i + 1) + " has " + word, java.util.regex.Pattern.compile(word).matcher(code).find() ? 1 : 0, 0);
            }
            for (char c : line.toCharArray()) {
                Check.due("line " + (i + 1) + " has a sign beyond 126", c > 126 ? 1 : 0, 0);
            }
        }
    }

    /** A method begins at an indent with a brace and ends with one at the same indent. */
    private static void lengths(List<String> lines) {
        for (int i = 0; i < lines.size(); i++) {
            String line = lines.get(i);
            if (line.endsWith(") {") && line.matches(" {4}( {4})?[a-zA-Z].*") && !line.strip().matches("(if|for|while|switch).*")) {
                String end = line.replaceFirst("\\S.*", "}");
                int j = i;
                while (j < lines.size() && !lines.get(j).equals(end)) {
                    j++;
                }
                Check.due("the method of line " + (i + 1) + " is too long: " + (j - i), j - i <= 60 ? 1 : 0, 1);
            }
        }
    }

    private static void face() {
        Set<String> found = new TreeSet<>();
        for (Method m : NoseDrum.class.getDeclaredMethods()) {
            if (!Modifier.isPrivate(m.getModifiers())) {
                found.add(m.getName());
                Check.due(m + " is public", Modifier.isPublic(m.getModifiers()) && !Modifier.isStatic(m.getModifiers()) ? 1 : 0, 1);
            }
        }
        Check.due("the face is " + found, found.equals(new TreeSet<>(List.of(FACE.split(" ")))) ? 1 : 0, 1);
        for (Field f : NoseDrum.class.getDeclaredFields()) {
            boolean none = f.getName().equals("NONE");
            Check.due(f + " is private", Modifier.isPrivate(f.getModifiers()) != none ? 1 : 0, 1);
        }
        Check.due("public and final", NoseDrum.class.getModifiers(), Modifier.PUBLIC | Modifier.FINAL);
        Check.due("constructors", NoseDrum.class.getDeclaredConstructors().length, 1);
    }

    private static void inside() {
        Class<?>[] classes = NoseDrum.class.getDeclaredClasses();
        Check.due("classes", classes.length + 1 <= 12 ? 1 : 0, 1);
        Set<String> public49 = new HashSet<>(List.of(FACE.split(" ")));
        for (Class<?> c : classes) {
            Check.due(c + " is static", Modifier.isStatic(c.getModifiers()) ? 1 : 0, 1);
            for (Method m : c.getDeclaredMethods()) {
                Check.due(m + " bears a name of the face", public49.contains(m.getName()) ? 1 : 0, 0);
                Check.due(m + " has too many parameters", m.getParameterCount() <= 7 ? 1 : 0, 1);
            }
            fields(c);
        }
        fields(NoseDrum.class);
        for (Method m : NoseDrum.class.getDeclaredMethods()) {
            Check.due(m + " has too many parameters", m.getParameterCount() <= 7 ? 1 : 0, 1);
        }
    }

    private static void fields(Class<?> c) {
        int many = 0;
        for (Field f : c.getDeclaredFields()) {
            boolean still = Modifier.isStatic(f.getModifiers());
            Check.due(f + " is static and not final", still && !Modifier.isFinal(f.getModifiers()) ? 1 : 0, 0);
            many += still ? 0 : 1;
        }
        Check.due(c + " has too many fields: " + many, many <= 20 ? 1 : 0, 1);
    }
}
