import java.io.IOException;
import java.lang.reflect.Method;
import java.lang.reflect.Modifier;
import java.nio.file.Files;
import java.nio.file.Path;
import java.util.Set;
import java.util.TreeSet;
import java.util.regex.Matcher;
import java.util.regex.Pattern;

/** What README.md shows is so: each call of its example, and each call of the class in its list. */
public final class ReadmeTest {
    private static final Path README = Path.of("README.md");
    private static final Pattern EXAMPLE = Pattern.compile("(?s)```java\n(.*?)```");
    private static final Pattern CALL = Pattern.compile("m\\.(\\w+)\\((.*?)\\); +// (-?\\w+).*");
    private static final Pattern ROW = Pattern.compile("(?m)^\\| (`.*?) \\|");
    private static final Pattern LISTED = Pattern.compile("`(\\w+)\\((.*?)\\)`");

    private static int wrong = 0;

    private static void tell(String text) {
        wrong++;
        System.out.println("README.md: " + text);
    }

    private static Method method(String name) {
        for (Method m : TwoMasks.class.getDeclaredMethods()) {
            if (Modifier.isPublic(m.getModifiers()) && m.getName().equals(name)) {
                return m;
            }
        }
        return null;
    }

    private static String[] argumentsOf(String list) {
        return list.isBlank() ? new String[0] : list.split(", *");
    }

    private static Object[] values(String list) {
        String[] texts = argumentsOf(list);
        Object[] values = new Object[texts.length];
        for (int i = 0; i < texts.length; i++) {
            boolean isYesOrNo = texts[i].equals("true") || texts[i].equals("false");
            values[i] = isYesOrNo ? (Object) Boolean.valueOf(texts[i]) : (Object) Integer.valueOf(texts[i]);
        }
        return values;
    }

    private static int answer(String word) throws ReflectiveOperationException {
        return word.matches("-?\\d+") ? Integer.parseInt(word) : TwoMasks.class.getField(word).getInt(null);
    }

    private static void example(String text) throws ReflectiveOperationException {
        Matcher block = EXAMPLE.matcher(text);
        if (!block.find()) {
            tell("there is no example");
            return;
        }
        String[] lines = block.group(1).split("\n");
        if (!lines[0].equals("TwoMasks m = new TwoMasks();")) {
            tell("the example begins with '" + lines[0] + "'");
        }
        TwoMasks m = new TwoMasks();
        for (int i = 1; i < lines.length; i++) {
            Matcher call = CALL.matcher(lines[i]);
            Method made = call.matches() ? method(call.group(1)) : null;
            if (made == null) {
                tell("no call with its answer: " + lines[i]);
                continue;
            }
            Object got = made.invoke(m, values(call.group(2)));
            if (!got.equals(answer(call.group(3)))) {
                tell(lines[i] + " -- it answers " + got);
            }
        }
    }

    /** Each call once, with as many arguments as it takes. */
    private static void list(String text) {
        Set<String> missing = new TreeSet<>();
        for (Method m : TwoMasks.class.getDeclaredMethods()) {
            if (Modifier.isPublic(m.getModifiers())) {
                missing.add(m.getName());
            }
        }
        Matcher row = ROW.matcher(text);
        while (row.find()) {
            Matcher listed = LISTED.matcher(row.group(1));
            while (listed.find()) {
                Method m = method(listed.group(1));
                if (m == null || !missing.remove(listed.group(1))) {
                    tell("no call, or one listed twice: " + listed.group());
                } else if (m.getParameterCount() != argumentsOf(listed.group(2)).length) {
                    tell("it takes " + m.getParameterCount() + ": " + listed.group());
                }
            }
        }
        if (!missing.isEmpty()) {
            tell("not listed: " + missing);
        }
    }

    public static void main(String[] args) throws IOException, ReflectiveOperationException {
        String text = Files.readString(README);
        example(text);
        list(text);
        if (wrong != 0) {
            System.exit(1);
        }
    }
}
