import java.io.IOException;
import java.lang.reflect.Constructor;
import java.lang.reflect.Field;
import java.lang.reflect.Member;
import java.lang.reflect.Method;
import java.lang.reflect.Modifier;
import java.nio.file.Files;
import java.nio.file.Path;
import java.util.ArrayList;
import java.util.Arrays;
import java.util.List;
import java.util.Set;
import java.util.TreeSet;
import java.util.regex.Matcher;
import java.util.regex.Pattern;

/** The document's face, no more and no less, and those rules of LANGUAGE.md that can be read off the file. */
public final class FaceTest {
    private static final Path PROGRAM = Path.of("src/main/java/TwoMasks.java");
    private static final Set<String> METHODS = Set.of(
        "int shape(int,int,int,int)", "int drop(int)", "int move(int,int,int)", "int cut(int,int)", "int heal(int,int)",
        "int bound(int,int)", "int fix(int,int)", "int turn()", "int drift(int,int)", "int undo()", "int told(int)",
        "int ofShape(int,int)", "int ofPiece(int,int)", "int gap(int,int)", "int at(int,int)", "int judge(int)",
        "int wouldCut(int,int)", "int wouldMove(int,int,int)", "int pair(int,int,boolean)", "int keep(int)", "int goBack(int)");
    private static final Set<String> CONSTANTS = Set.of(
        "NONE=-1", "UNKNOWN=-1000000001", "OUTSIDE=-1000000002", "NOT=-1000000003", "FULL=-1000000004");
    /** The calls in the document's order, each group behind its heading. */
    private static final List<String> ORDER = List.of("TwoMasks", "// ---- shapes", "shape", "drop", "move", "cut", "heal", "bound",
        "fix", "turn", "drift", "undo", "told", "ofShape", "ofPiece", "gap", "at", "// ---- asked", "judge", "wouldCut", "wouldMove",
        "pair", "// ---- images", "keep", "goBack");
    private static final int LONGEST_METHOD = 60;
    private static final List<String> BANNED_WORDS = List.of("throw", "throws", "try", "catch", "synchronized", "assert",
        "import", "package", "System.currentTimeMillis", "System.nanoTime", "Random", "Thread", "double", "float", "Exact");

    private static int wrong = 0;

    private static void due(String what, Object got, Object want) {
        if (!got.equals(want)) {
            wrong++;
            System.out.println(what + " is " + got + ", due is " + want);
        }
    }

    private static String signature(Method m) {
        String types = String.join(",", Arrays.stream(m.getParameterTypes()).map(Class::getSimpleName).toList());
        return m.getReturnType().getSimpleName() + " " + m.getName() + "(" + types + ")";
    }

    private static boolean isHidden(Member member) {
        return Modifier.isPrivate(member.getModifiers()) || member.isSynthetic();
    }

    private static void face() throws IllegalAccessException {
        Class<?> c = TwoMasks.class;
        due("public final", Modifier.isPublic(c.getModifiers()) && Modifier.isFinal(c.getModifiers()), true);
        due("no class above it", c.getSuperclass(), Object.class);
        due("interfaces", c.getInterfaces().length, 0);
        Set<String> methods = new TreeSet<>();
        for (Method m : c.getDeclaredMethods()) {
            if (!isHidden(m)) {
                due(m + " public and of objects", m.getModifiers(), Modifier.PUBLIC);
                methods.add(signature(m));
            }
        }
        due("methods", methods, new TreeSet<>(METHODS));
        Set<String> constants = new TreeSet<>();
        for (Field f : c.getDeclaredFields()) {
            if (!isHidden(f)) {
                due(f + " a constant", f.getModifiers(), Modifier.PUBLIC | Modifier.STATIC | Modifier.FINAL);
                constants.add(f.getName() + "=" + f.getInt(null));
            }
        }
        due("constants", constants, new TreeSet<>(CONSTANTS));
        Constructor<?>[] made = c.getDeclaredConstructors();
        due("constructors", made.length, 1);
        due("constructor's arguments", made[0].getParameterCount(), 0);
        due("constructor public", Modifier.isPublic(made[0].getModifiers()), true);
    }

    private static void inside() {
        Set<String> taken = new TreeSet<>();
        METHODS.forEach(m -> taken.add(m.substring(4, m.indexOf('('))));
        Class<?>[] nested = TwoMasks.class.getDeclaredClasses();
        due("twelve classes at most", nested.length < 12, true);
        for (Class<?> c : nested) {
            due(c + " static", Modifier.isStatic(c.getModifiers()), true);
            due(c + " has twenty fields at most", fieldsBesideConstants(c) <= 20, true);
            for (Method m : c.getDeclaredMethods()) {
                due(m + " bears the name of a public one", taken.contains(m.getName()), false);
                due(m + " takes seven at most", m.getParameterCount() <= 7, true);
            }
        }
        due("twenty fields at most", fieldsBesideConstants(TwoMasks.class) <= 20, true);
        for (Method m : TwoMasks.class.getDeclaredMethods()) {
            if (isHidden(m)) {
                due(m + " bears the name of a public one", taken.contains(m.getName()), false);
            }
        }
    }

    private static long fieldsBesideConstants(Class<?> c) {
        return Arrays.stream(c.getDeclaredFields()).filter(f -> !Modifier.isStatic(f.getModifiers())).count();
    }

    private static void words() throws IOException {
        String text = Files.readString(PROGRAM);
        String code = text.replaceAll("(?s)/\\*.*?\\*/", " ").replaceAll("//[^\n]*", " ");
        for (String word : BANNED_WORDS) {
            Matcher found = Pattern.compile("\\b" + Pattern.quote(word) + "\\b").matcher(code);
            due("'" + word + "' in the program", found.find(), false);
        }
        due("no lambda, no method reference", code.contains("->") || code.contains("::"), false);
        due("signs up to 127", text.chars().allMatch(c -> c < 128), true);
    }

    private static void order() throws IOException {
        Pattern wanted = Pattern.compile("^    public (?:int )?(\\w+)\\(.*\\{$|^    (// ---- (?:shapes|asked|images))$");
        List<String> found = new ArrayList<>();
        for (String line : Files.readAllLines(PROGRAM)) {
            Matcher m = wanted.matcher(line);
            if (m.matches()) {
                found.add(m.group(1) != null ? m.group(1) : m.group(2));
            }
        }
        due("the calls and their headings", found, ORDER);
    }

    /** A method begins with a line that ends in ") {", and ends with a "}" as far in as it began. */
    private static void lengths() throws IOException {
        Pattern head = Pattern.compile("^( {4}| {8})(?:public |private |static )*(?:(?!return)\\w[\\w\\[\\]]* )?\\w+\\([^()]*\\) \\{$");
        List<String> lines = Files.readAllLines(PROGRAM);
        int methods = 0;
        for (int i = 0; i < lines.size(); i++) {
            Matcher m = head.matcher(lines.get(i));
            if (m.matches() && !lines.get(i).trim().matches("(if|for|while|switch) .*")) {
                int end = i + lines.subList(i, lines.size()).indexOf(m.group(1) + "}");
                methods++;
                due(lines.get(i).trim() + " is short", end - i < LONGEST_METHOD, true);
            }
        }
        due("most methods were seen", methods > 80, true);
    }

    public static void main(String[] args) throws IOException, IllegalAccessException {
        face();
        inside();
        words();
        order();
        lengths();
        if (wrong != 0) {
            System.exit(1);
        }
    }
}
