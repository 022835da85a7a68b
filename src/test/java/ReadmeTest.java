import java.lang.reflect.Method;
import java.lang.reflect.Modifier;
import java.nio.file.Files;
import java.nio.file.Path;
import java.util.HashMap;
import java.util.Map;
import java.util.regex.Matcher;
import java.util.regex.Pattern;

/** The example of README.md: each line must be understood, and the last call of it must answer what it says there. */
public final class ReadmeTest {
    private static final Path README = Path.of("README.md");
    private static final Pattern LINE = Pattern.compile("((?:(?:int \\w+ = )?office\\.\\w+\\([^()]*\\); *)+)// -> (-?\\d+|true|false)( .*)?");
    private static final Pattern CALL = Pattern.compile("(?:int (\\w+) = )?office\\.(\\w+)\\(([^()]*)\\);");

    private static final Map<String, Method> METHODS = new HashMap<>();
    private static final Map<String, Integer> NAMED = new HashMap<>();
    private static final LightList OFFICE = new LightList();

    private static int wrong = 0;

    private static void fail(String what) {
        wrong++;
        System.out.println("README.md: " + what);
    }

    public static void main(String[] args) throws Exception {
        for (Method m : LightList.class.getDeclaredMethods()) {
            if (Modifier.isPublic(m.getModifiers())) METHODS.put(m.getName(), m);
        }
        String text = Files.readString(README);
        for (String name : METHODS.keySet()) {
            if (!text.contains("`" + name + "(")) fail(name + " is not named");
        }
        int lines = runExample(text);
        if (lines == 0) fail("there is no example");
        System.out.println("readme: " + lines + " lines of the example, " + wrong + " wrong");
        if (wrong != 0) System.exit(1);
    }

    private static int runExample(String text) throws Exception {
        Matcher example = Pattern.compile("(?s)```java\n(.*?)```").matcher(text);
        int lines = 0;
        if (!example.find()) return lines;
        for (String line : example.group(1).split("\n")) {
            if (line.isEmpty() || line.startsWith("//") || line.equals("LightList office = new LightList();")) continue;
            Matcher parts = LINE.matcher(line);
            if (!parts.matches()) {
                fail("not understood: " + line);
                continue;
            }
            lines++;
            String got = answerOfLast(parts.group(1));
            if (!got.equals(parts.group(2))) fail(line + " .. answered " + got);
        }
        return lines;
    }

    private static String answerOfLast(String calls) throws Exception {
        String got = "";
        Matcher call = CALL.matcher(calls);
        while (call.find()) {
            Object answer = METHODS.get(call.group(2)).invoke(OFFICE, arguments(call.group(3)));
            if (call.group(1) != null) NAMED.put(call.group(1), (Integer) answer);
            got = String.valueOf(answer);
        }
        return got;
    }

    private static Object[] arguments(String told) {
        if (told.isBlank()) return new Object[0];
        String[] parts = told.split(", ");
        Object[] values = new Object[parts.length];
        for (int i = 0; i < parts.length; i++) {
            values[i] = NAMED.containsKey(parts[i]) ? NAMED.get(parts[i]) : Integer.decode(parts[i]);
        }
        return values;
    }
}
