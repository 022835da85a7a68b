import java.lang.reflect.Constructor;
import java.lang.reflect.Field;
import java.lang.reflect.Method;
import java.lang.reflect.Modifier;
import java.nio.file.Files;
import java.nio.file.Path;
import java.util.Arrays;
import java.util.Set;
import java.util.TreeSet;
import java.util.regex.Matcher;
import java.util.regex.Pattern;

/** The face of the document, and those rules of LANGUAGE.md that can be seen by looking at the text. */
public final class LanguageTest {
    private static final Path PROGRAM = Path.of("src/main/java/LightList.java");
    private static final String FACE = "span(int) tear() light(int,int,int,int,int,int,int) mark(int,int) clear(int) holds(int)"
        + " number(int) direct(int,int,int,int) haze(int) notice(int,int,int,int,int,int,int) days(int,int) lit(int)"
        + " of(int,int) spanOf(int,int) at(int,int,int,int) sight(int,int,int,int,int,int) bear(int,int,int) fits(int,int)"
        + " which(int) one(int,int) sure(int) ask(int) cross(int) square(int,int) water(int,int) offer() apart(int,int,int)"
        + " check(int) give(int,int) given(int) undo(int) keep(int) back(int) about(int)";
    private static final Set<String> TRUE_OR_FALSE = Set.of("mark", "clear", "days", "bear", "water", "keep", "back");

    private static int wrong = 0;

    private static void must(boolean holds, String what) {
        if (!holds) {
            wrong++;
            System.out.println("not so: " + what);
        }
    }

    public static void main(String[] args) throws Exception {
        face();
        inside();
        text(code(Files.readString(PROGRAM)));
        System.out.println(wrong == 0 ? "language: all rules that are looked at hold" : "language: " + wrong + " wrong");
        if (wrong != 0) System.exit(1);
    }

    private static void face() {
        must(Modifier.isFinal(LightList.class.getModifiers()), "the class is final");
        Set<String> open = new TreeSet<>();
        Set<String> names = new TreeSet<>();
        for (Method m : LightList.class.getDeclaredMethods()) {
            if (Modifier.isPrivate(m.getModifiers())) continue;
            String types = String.join(",", Arrays.stream(m.getParameterTypes()).map(Class::getName).toList());
            open.add(m.getName() + "(" + types + ")");
            names.add(m.getName());
            must(Modifier.isPublic(m.getModifiers()) && !Modifier.isStatic(m.getModifiers()), m + " is public");
            must(m.getReturnType() == (TRUE_OR_FALSE.contains(m.getName()) ? boolean.class : int.class), m + " answers as it must");
        }
        must(open.equals(new TreeSet<>(Arrays.asList(FACE.split(" ")))), "the face is the document's: " + open);
        for (Class<?> c : allClasses()) {
            for (Method m : c.getDeclaredMethods()) {
                must(c == LightList.class && !Modifier.isPrivate(m.getModifiers()) || !names.contains(m.getName()), m + " bears no public one's name");
            }
        }
        for (Field f : LightList.class.getDeclaredFields()) {
            must(Modifier.isPrivate(f.getModifiers()) || f.getName().equals("NONE"), f + " is private");
        }
        Constructor<?>[] makers = LightList.class.getDeclaredConstructors();
        must(makers.length == 1 && Modifier.isPublic(makers[0].getModifiers()) && makers[0].getParameterCount() == 0, "one constructor");
    }

    private static Class<?>[] allClasses() {
        Class<?>[] inner = LightList.class.getDeclaredClasses();
        Class<?>[] all = Arrays.copyOf(inner, inner.length + 1);
        all[inner.length] = LightList.class;
        return all;
    }

    private static void inside() {
        must(allClasses().length <= 12, "at most twelve classes");
        for (Class<?> c : allClasses()) {
            must(c == LightList.class || Modifier.isStatic(c.getModifiers()), c + " is static");
            int fields = 0;
            for (Field f : c.getDeclaredFields()) {
                boolean isStatic = Modifier.isStatic(f.getModifiers());
                must(!isStatic || Modifier.isFinal(f.getModifiers()), f + " is final");
                if (!isStatic) fields++;
            }
            must(fields <= 20, c + " has at most twenty fields");
            for (Method m : c.getDeclaredMethods()) must(m.getParameterCount() <= 7, m + " takes at most seven");
            for (Constructor<?> m : c.getDeclaredConstructors()) must(m.getParameterCount() <= 7, m + " takes at most seven");
        }
    }

    /** The text without comments. */
    private static String code(String text) {
        return text.replaceAll("(?s)/\\*.*?\\*/", "").replaceAll("//[^\n]*", "");
    }

    private static void text(String code) {
        String[] never = {
            "\\b(throw|throws|try|catch|synchronized|assert|volatile|transient|native|package)\\b", "->", "::", "\"",
            "\\b(Object|Float|Double|System\\.(?!arraycopy)\\w+|Random|Thread|Class|Iterator)\\b", "\\w+Exact\\b", "\\[\\]\\[\\]\\[\\]",
            "\\b(equals|hashCode|toString|getClass)\\b", "\\bstatic\\s*\\{", "\\bwhile\\s*\\(\\s*true", "for\\s*\\(\\s*;",
        };
        for (String n : never) {
            Matcher m = Pattern.compile(n).matcher(code);
            while (m.find()) must(false, "no " + m.group());
        }
        Matcher imports = Pattern.compile("import ([\\w.]+);").matcher(code);
        while (imports.find()) must(Set.of("java.util.Arrays", "java.util.ArrayList", "java.util.List").contains(imports.group(1)), "import " + imports.group(1));
        Matcher library = Pattern.compile("\\b(Math|Integer|Long|Arrays)\\.(\\w+)").matcher(code);
        Set<String> known = Set.of("min", "max", "abs", "floorMod", "floorDiv", "bitCount", "compare", "copyOf", "copyOfRange", "fill");
        while (library.find()) must(known.contains(library.group(2)), "library: " + library.group());
        must(code.chars().allMatch(c -> c < 128), "plain signs alone");
        methodsAreShort(code);
    }

    private static void methodsAreShort(String code) {
        int start = -1;
        String[] lines = code.split("\n");
        for (int i = 0; i < lines.length; i++) {
            if (lines[i].matches("(    |        )[\\w].*\\) \\{")) start = i;
            if (lines[i].matches("(    |        )\\}") && start >= 0) {
                must(i - start <= 60, "short: " + lines[start].trim());
                start = -1;
            }
        }
    }
}
