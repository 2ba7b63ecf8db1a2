import java.lang.reflect.Constructor;
import java.lang.reflect.Field;
import java.lang.reflect.Method;
import java.lang.reflect.Modifier;
import java.nio.file.Files;
import java.nio.file.Path;
import java.util.Arrays;
import java.util.List;
import java.util.Set;
import java.util.TreeSet;
import java.util.regex.Matcher;
import java.util.regex.Pattern;

/** The face and heads of the document, and those rules of LANGUAGE.md that can be seen without judgement. */
public final class RulesTest {
    private static final String FACE = "points(1) line(3) next(1) count(1) most(1) mate(1) ways(1) alone(2) mark(1)"
        + " marked(1) pieces(1) piece(3) surplus(1) odd(1) barrier(1) barriers(1) critical(1) ear(2) verdict(2)"
        + " verdicts(1) without(1) mends(1) breaks(1) isTold(1) misses(1) way(2) grow(1) chains(3) paint(2) feed(2)"
        + " wipe(0) text(0) seed(1) deal(2) times(4) shelf(3) taken(2) held(2) sheet(3) write(3) item(2) copy(5)"
        + " image(0) back(0)";
    private static final List<String> BANNED = List.of("throw", "throws", "try", "catch", "synchronized", "assert",
        "import", "package", "->", "::", "Object", "Random", "System.out", "System.nano", "System.current", "Thread",
        "protected", "native", "hashCode", "toString", "Exact", "volatile", "transient");

    // Rule 4 names these, or means them by "and their like"; the last one is the class's own.
    private static final Set<String> LIBRARY = Set.of("Integer.bitCount", "Integer.lowestOneBit",
        "Integer.numberOfLeadingZeros", "Integer.numberOfTrailingZeros", "Math.max", "Math.min", "System.arraycopy",
        "Net.firstPiece");

    private static int wrong = 0;

    private static void check(boolean holds, String what) {
        if (!holds) {
            wrong++;
            System.out.println("broken: " + what);
        }
    }

    public static void main(String[] args) throws Exception {
        face();
        nested();
        String program = Files.readString(Path.of("src/main/java/MissedPoints.java"));
        String document = Files.readString(Path.of("../shared/DOC.md"));
        documentFace(document, program);
        documentHeads(document, program);
        source(program);
        System.out.println("RulesTest: " + wrong + " rules broken");
        if (wrong != 0) System.exit(1);
    }

    private static void face() throws Exception {
        Class<?> c = MissedPoints.class;
        check(Modifier.isPublic(c.getModifiers()) && Modifier.isFinal(c.getModifiers()), "public and final");
        Constructor<?>[] made = c.getDeclaredConstructors();
        check(made.length == 1 && made[0].getParameterCount() == 0 && Modifier.isPublic(made[0].getModifiers()),
            "one public constructor");
        Set<String> found = new TreeSet<>();
        for (Method m : c.getDeclaredMethods()) {
            if (Modifier.isPrivate(m.getModifiers())) continue;
            found.add(m.getName() + "(" + m.getParameterCount() + ")");
            check(Modifier.isPublic(m.getModifiers()) && !Modifier.isStatic(m.getModifiers()), m + " is of the face");
            check(m.getReturnType() == int.class, m + " answers an int");
            for (Class<?> p : m.getParameterTypes()) check(p == int.class, m + " takes ints");
        }
        check(found.equals(new TreeSet<>(Arrays.asList(FACE.split(" ")))), "the methods of the face: " + found);
        Set<String> constants = new TreeSet<>();
        for (Field f : c.getDeclaredFields()) {
            if (Modifier.isPrivate(f.getModifiers())) continue;
            check(Modifier.isPublic(f.getModifiers()) && Modifier.isStatic(f.getModifiers())
                && Modifier.isFinal(f.getModifiers()), f + " is a constant");
            constants.add(f.getName() + "=" + f.get(null));
        }
        check(constants.equals(Set.of("NONE=-1", "BAD=-2", "STATE=-3", "FULL=-4")), "the constants " + constants);
    }

    /** Each row of the face stands in the program as the document prints it, and in that order. */
    private static void documentFace(String document, String program) {
        Matcher call = Pattern.compile("(?m)^    public int (\\w+\\([^)]*\\));$").matcher(document);
        Set<String> found = new TreeSet<>();
        int last = -1;
        while (call.find()) {
            String row = call.group(1);
            int numbers = row.endsWith("()") ? 0 : row.split(",").length;
            found.add(row.substring(0, row.indexOf('(')) + "(" + numbers + ")");
            int at = program.indexOf("\n    public int " + row + " {");
            check(at > last, row + " stands where the document has it");
            last = Math.max(at, last);
        }
        check(found.equals(new TreeSet<>(Arrays.asList(FACE.split(" ")))), "the face that the document prints: " + found);
        check(program.contains("public static final int NONE = -1, BAD = -2, STATE = -3, FULL = -4;"), "its constants");
    }

    /** Ahead of the calls that the document names stands their head, ahead of the next ones another. */
    private static void documentHeads(String document, String program) {
        Matcher head = Pattern.compile("Ahead of the calls (.*) the interface says: (---- .*)\\.").matcher(document);
        int heads = 0;
        while (head.find()) {
            heads++;
            int from = program.indexOf("    // " + head.group(2) + "\n");
            check(from >= 0, "head " + head.group(2));
            int next = program.indexOf("    // ----", from + 1);
            String part = program.substring(Math.max(from, 0), next < 0 ? program.length() : next);
            StringBuilder calls = new StringBuilder();
            Matcher call = Pattern.compile("(?m)^    public int (\\w+)\\(").matcher(part);
            while (call.find()) calls.append(calls.length() == 0 ? "`" : ", `").append(call.group(1)).append('`');
            check(calls.toString().equals(head.group(1)), head.group(2) + " stands ahead of " + calls);
        }
        check(heads == 10, "ten heads, found " + heads);
    }

    private static void nested() {
        Set<String> faceNames = new TreeSet<>();
        for (String call : FACE.split(" ")) faceNames.add(call.substring(0, call.indexOf('(')));
        Class<?>[] inside = MissedPoints.class.getDeclaredClasses();
        check(inside.length <= 12, "at most some twelve classes");
        for (Class<?> c : inside) {
            check(Modifier.isStatic(c.getModifiers()) && Modifier.isPrivate(c.getModifiers()), c + " private, static");
            for (Method m : c.getDeclaredMethods()) {
                check(!faceNames.contains(m.getName()), m + " bears a name of the face");
                check(m.getParameterCount() <= 7, m + " takes at most seven");
            }
        }
        for (Method m : MissedPoints.class.getDeclaredMethods()) {
            if (Modifier.isPrivate(m.getModifiers())) check(!faceNames.contains(m.getName()), m + " bears a face name");
        }
        for (Class<?> c : withOuter(inside)) {
            int fields = 0;
            for (Field f : c.getDeclaredFields()) {
                if (!Modifier.isStatic(f.getModifiers())) fields++;
                else check(Modifier.isFinal(f.getModifiers()), f + " is final");
            }
            check(fields <= 20, c + " has at most twenty fields");
        }
    }

    private static Class<?>[] withOuter(Class<?>[] inside) {
        Class<?>[] all = Arrays.copyOf(inside, inside.length + 1);
        all[inside.length] = MissedPoints.class;
        return all;
    }

    private static void source(String text) {
        String code = text.replaceAll("(?s)/\\*.*?\\*/", "").replaceAll("//[^\n]*", "");
        for (String word : BANNED) {
            String edge = Character.isLetter(word.charAt(0)) ? "\\b" : "";
            boolean found = Pattern.compile(edge + Pattern.quote(word) + edge).matcher(code).find();
            check(!found, "'" + word + "' stands in the program");
        }
        Matcher used = Pattern.compile("\\b[A-Z][a-z]\\w*\\.\\w+(?=\\()").matcher(code);
        while (used.find()) check(LIBRARY.contains(used.group()), used.group() + " is none of the library");
        for (int i = 0; i < text.length(); i++) check(text.charAt(i) < 128, "sign " + i + " is plain");
        check(!code.contains("static {"), "no static block");
        // What a run makes is counted, so 'new' stands in fields, in constructors and for one late row only.
        Matcher made = Pattern.compile("(?m)^.*\\bnew\\b.*$").matcher(code);
        while (made.find()) {
            String line = made.group().trim();
            boolean known = line.startsWith("private final") || line.equals("private Memo numbers = new Memo(0);")
                || line.equals("sheets[s] = new Sheet();") || line.startsWith("cells = new int[") || line.startsWith("numbers = new Memo(");
            check(known, "made in a call: " + line);
        }
        methodLengths(code);
    }

    private static void methodLengths(String code) {
        String[] lines = code.split("\n");
        int start = -1;
        String indent = "";
        for (int i = 0; i < lines.length; i++) {
            if (start < 0 && lines[i].matches(" +[\\w\\[\\] ]*\\w+\\([^;]*\\) \\{") && !lines[i].matches(".*\\b(if|for|while|switch|else)\\b.*")) {
                start = i;
                indent = lines[i].replaceAll("\\S.*", "");
            } else if (start >= 0 && lines[i].equals(indent + "}")) {
                check(i - start < 60, "long: " + lines[start].trim());
                start = -1;
            }
        }
    }
}
