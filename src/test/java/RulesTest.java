import java.lang.reflect.Constructor;
import java.lang.reflect.Field;
import java.lang.reflect.Method;
import java.lang.reflect.Modifier;
import java.nio.file.Files;
import java.nio.file.Path;
import java.util.Arrays;
import java.util.List;
import java.util.Set;
import java.util.TreeSet;
import java.util.regex.Matcher;
import java.util.regex.Pattern;

/** The face of the document, and those rules of LANGUAGE.md that can be seen without judgement. */
public final class RulesTest {
    private static final String FACE = "points(1) line(3) next(1) count(1) most(1) mate(1) ways(1) alone(2) mark(1)"
        + " marked(1) pieces(1) piece(3) surplus(1) odd(1) barrier(1) barriers(1) critical(1) ear(2) verdict(2)"
        + " verdicts(1) without(1) mends(1) breaks(1) isTold(1) misses(1) way(2) grow(1) chains(3) paint(2) feed(2)"
        + " wipe(0) text(0) seed(1) deal(2) times(4) shelf(3) taken(2) held(2) sheet(3) write(3) item(2) copy(5)"
        + " image(0) back(0)";
    private static final List<String> BANNED = List.of("throw", "throws", "try", "catch", "synchronized", "assert",
        "import", "package", "->", "::", "Object", "Random", "System.out", "System.nano", "System.current", "Thread",
        "protected", "native", "hashCode", "toString", "Exact", "volatile", "transient");

    private static int wrong = 0;

    private static void check(boolean holds, String what) {
        if (!holds) {
            wrong++;
            System.out.println("broken: " + what);
        }
    }

    public static void main(String[] args) throws Exception {
        face();
        nested();
        source(Files.readString(Path.of("src/main/java/MissedPoints.java")));
        System.out.println("RulesTest: " + wrong + " rules broken");
        if (wrong != 0) System.exit(1);
    }

    private static void face() throws Exception {
        Class<?> c = MissedPoints.class;
        check(Modifier.isPublic(c.getModifiers()) && Modifier.isFinal(c.getModifiers()), "public and final");
        Constructor<?>[] made = c.getDeclaredConstructors();
        check(made.length == 1 && made[0].getParameterCount() == 0 && Modifier.isPublic(made[0].getModifiers()),
            "one public constructor");
        Set<String> found = new TreeSet<>();
        for (Method m : c.getDeclaredMethods()) {
            if (Modifier.isPrivate(m.getModifiers())) continue;
            found.add(m.getName() + "(" + m.getParameterCount() + ")");
            check(Modifier.isPublic(m.getModifiers()) && !Modifier.isStatic(m.getModifiers()), m + " is of the face");
            check(m.getReturnType() == int.class, m + " answers an int");
            for (Class<?> p : m.getParameterTypes()) check(p == int.class, m + " takes ints");
        }
        check(found.equals(new TreeSet<>(Arrays.asList(FACE.split(" ")))), "the methods of the face: " + found);
        Set<String> constants = new TreeSet<>();
        for (Field f : c.getDeclaredFields()) {
            if (Modifier.isPrivate(f.getModifiers())) continue;
            check(Modifier.isPublic(f.getModifiers()) && Modifier.isStatic(f.getModifiers())
                && Modifier.isFinal(f.getModifiers()), f + " is a constant");
            constants.add(f.getName() + "=" + f.get(null));
        }
        check(constants.equals(Set.of("NONE=-1", "BAD=-2", "STATE=-3", "FULL=-4")), "the constants " + constants);
    }

    private static void nested() {
        Set<String> faceNames = new TreeSet<>();
        for (String call : FACE.split(" ")) faceNames.add(call.substring(0, call.indexOf('(')));
        Class<?>[] inside = MissedPoints.class.getDeclaredClasses();
        check(inside.length <= 12, "at most some twelve classes");
        for (Class<?> c : inside) {
            check(Modifier.isStatic(c.getModifiers()) && Modifier.isPrivate(c.getModifiers()), c + " private, static");
            for (Method m : c.getDeclaredMethods()) {
                check(!faceNames.contains(m.getName()), m + " bears a name of the face");
                check(m.getParameterCount() <= 7, m + " takes at most seven");
            }
        }
        for (Method m : MissedPoints.class.getDeclaredMethods()) {
            if (Modifier.isPrivate(m.getModifiers())) check(!faceNames.contains(m.getName()), m + " bears a face name");
        }
        for (Class<?> c : withOuter(inside)) {
            int fields = 0;
            for (Field f : c.getDeclaredFields()) {
                if (!Modifier.isStatic(f.getModifiers())) fields++;
                else check(Modifier.isFinal(f.getModifiers()), f + " is final");
            }
            check(fields <= 20, c + " has at most twenty fields");
        }
    }

    private static Class<?>[] withOuter(Class<?>[] inside) {
        Class<?>[] all = Arrays.copyOf(inside, inside.length + 1);
        all[inside.length] = MissedPoints.class;
        return all;
    }

    private static void source(String text) {
        String code = text.replaceAll("(?s)/\\*.*?\\*/", "").replaceAll("//[^\n]*", "");
        for (String word : BANNED) {
            String edge = Character.isLetter(word.charAt(0)) ? "\\b" : "";
            boolean found = Pattern.compile(edge + Pattern.quote(word) + edge).matcher(code).find();
            check(!found, "'" + word + "' stands in the program");
        }
        for (int i = 0; i < text.length(); i++) check(text.charAt(i) < 128, "sign " + i + " is plain");
        check(!code.contains("static {"), "no static block");
        // What a run makes is counted, so 'new' stands in fields, in constructors and for one late row only.
        Matcher made = Pattern.compile("(?m)^.*\\bnew\\b.*$").matcher(code);
        while (made.find()) {
            String line = made.group().trim();
            boolean known = line.startsWith("private final") || line.equals("private Memo numbers = new Memo(0);")
                || line.equals("sheets[s] = new Sheet();") || line.startsWith("cells = new int[") || line.startsWith("numbers = new Memo(");
            check(known, "made in a call: " + line);
        }
        methodLengths(code);
    }

    private static void methodLengths(String code) {
        String[] lines = code.split("\n");
        int start = -1;
        String indent = "";
        for (int i = 0; i < lines.length; i++) {
            if (start < 0 && lines[i].matches(" +[\\w\\[\\] ]*\\w+\\([^;]*\\) \\{") && !lines[i].matches(".*\\b(if|for|while|switch|else)\\b.*")) {
                start = i;
                indent = lines[i].replaceAll("\\S.*", "");
            } else if (start >= 0 && lines[i].equals(indent + "}")) {
                check(i - start < 60, "long: " + lines[start].trim());
                start = -1;
            }
        }
    }
}
