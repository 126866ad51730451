import java.lang.reflect.Constructor;
import java.lang.reflect.Field;
import java.lang.reflect.Method;
import java.lang.reflect.Modifier;
import java.nio.file.Files;
import java.nio.file.Path;
import java.util.ArrayList;
import java.util.Arrays;
import java.util.List;
import java.util.TreeSet;
import java.util.regex.Matcher;
import java.util.regex.Pattern;

/** The public face, and what of LANGUAGE.md can be seen in the source or the compiled class. */
public final class LanguageTest {
    static final String FACE =
        "value:iii free:iz test:ii testValue:izi rule:iiiii typed:iiiii stack:iz make:iz spell:iii turn: spend:ii "
        + "rest: image: back: valueTold:ii number:ii ruleTold:ii amount:i ring:i needs:ii choice:ii lawful:i mend: "
        + "most:iiiz seek:iiiz both:ii way:ii dice:ii chance:iizi count:i act:iii trace:i sheet:iii cell:iii row:iii "
        + "forge:iii status:";
    private static final List<String> LONGS = List.of("number", "amount", "most", "dice", "chance");
    private static final String[] BANNED = {
        "throw", "throws", "try", "catch", "finally", "synchronized", "assert", "->", "::", "protected", "native",
        "volatile", "transient", "strictfp", "Exact", "System\\.(?!arraycopy)", "Thread", "Random", "var", "yield",
        "hashCode", "toString", "import (?!java\\.util\\.(Arrays|ArrayList|List);)", "package", "@"};
    private static final Pattern LIBRARY = Pattern.compile("\\b(Integer|Long|Math|Arrays|System|String|List)\\.(\\w+)");
    private static final List<String> LIBRARY_USED = List.of(
        "Integer.bitCount", "Math.max", "Math.min", "Math.floorMod", "Arrays.fill", "System.arraycopy");
    private static final int MOST_CLASSES = 12;
    private static final int MOST_FIELDS = 20;
    private static final int MOST_PARAMETERS = 7;
    private static final int MOST_LINES = 60;

    private static int wrong = 0;

    public static void main(String[] args) throws Exception {
        face();
        members();
        nested();
        source();
        System.out.println("language: " + wrong + " wrong");
        if (wrong > 0) {
            System.exit(1);
        }
    }

    private static void check(boolean right, String told) {
        if (!right) {
            wrong++;
            System.out.println("language: " + told);
        }
    }

    private static String signature(Method m) {
        StringBuilder kinds = new StringBuilder(m.getName()).append(':');
        for (Class<?> p : m.getParameterTypes()) {
            kinds.append(p == int.class ? "i" : p == boolean.class ? "z" : "?");
        }
        return kinds.toString();
    }

    private static void face() throws Exception {
        TreeSet<String> due = new TreeSet<>(Arrays.asList(FACE.split(" ")));
        TreeSet<String> got = new TreeSet<>();
        for (Method m : HeroSheet.class.getDeclaredMethods()) {
            if (Modifier.isPublic(m.getModifiers())) {
                got.add(signature(m));
                Class<?> answer = LONGS.contains(m.getName()) ? long.class : int.class;
                check(m.getReturnType() == answer, m.getName() + " answers " + m.getReturnType());
            }
        }
        check(got.equals(due), "the face is " + got + ", due is " + due);
        check(Modifier.isFinal(HeroSheet.class.getModifiers()), "the class is not final");
        check(HeroSheet.class.getConstructors().length == 1, "more than one constructor");
        check(HeroSheet.class.getField("NONE").getInt(null) == -1, "NONE");
        check(HeroSheet.class.getField("NO").getLong(null) == -1000000000000L, "NO");
    }

    private static void members() {
        TreeSet<String> open = new TreeSet<>();
        for (Method m : HeroSheet.class.getDeclaredMethods()) {
            if (Modifier.isPublic(m.getModifiers())) {
                open.add(m.getName());
            }
        }
        for (Method m : HeroSheet.class.getDeclaredMethods()) {
            boolean hidden = Modifier.isPrivate(m.getModifiers());
            check(hidden || Modifier.isPublic(m.getModifiers()), m.getName() + " is neither public nor private");
            check(!hidden || !open.contains(m.getName()), "a private method is named " + m.getName());
        }
        for (Field f : HeroSheet.class.getDeclaredFields()) {
            boolean told = f.getName().equals("NONE") || f.getName().equals("NO");
            check(told || Modifier.isPrivate(f.getModifiers()), "the field " + f.getName() + " is seen");
        }
    }

    private static void nested() {
        List<Class<?>> all = new ArrayList<>(List.of(HeroSheet.class.getDeclaredClasses()));
        all.add(HeroSheet.class);
        check(all.size() <= MOST_CLASSES, all.size() + " classes");
        for (Class<?> c : all) {
            check(c == HeroSheet.class || Modifier.isStatic(c.getModifiers()), c.getName() + " is not static");
            check(c.getDeclaredClasses().length == 0 || c == HeroSheet.class, c.getName() + " has classes inside");
            int fields = 0;
            for (Field f : c.getDeclaredFields()) {
                fields += Modifier.isStatic(f.getModifiers()) ? 0 : 1;
                check(!Modifier.isStatic(f.getModifiers()) || Modifier.isFinal(f.getModifiers()),
                    f.getName() + " is static, but not final");
            }
            check(fields <= MOST_FIELDS, c.getName() + " has " + fields + " fields");
            for (Method m : c.getDeclaredMethods()) {
                check(m.getParameterCount() <= MOST_PARAMETERS, m.getName() + " has too many parameters");
            }
            for (Constructor<?> k : c.getDeclaredConstructors()) {
                check(k.getParameterCount() <= MOST_PARAMETERS, k + " has too many parameters");
            }
        }
    }

    private static void source() throws Exception {
        List<String> lines = Files.readAllLines(Path.of("src/main/java/HeroSheet.java"));
        String code = String.join("\n", lines).replaceAll("(?s)/\\*.*?\\*/", "").replaceAll("//[^\n]*", "");
        for (String banned : BANNED) {
            String word = banned.matches("\\w+") ? "\\b" + banned + "\\b" : banned;
            Matcher m = Pattern.compile(banned.equals("Exact") ? "Exact\\b" : word).matcher(code);
            check(!m.find(), "the source has " + banned);
        }
        Matcher used = LIBRARY.matcher(code);
        while (used.find()) {
            check(LIBRARY_USED.contains(used.group()), "the source uses " + used.group());
        }
        check(code.chars().allMatch(c -> c < 128), "the source has other characters than plain ones");
        methodLengths(lines);
    }

    private static void methodLengths(List<String> lines) {
        int began = -1;
        for (int i = 0; i < lines.size(); i++) {
            String line = lines.get(i);
            if (line.matches(" {4,8}[\\w\\[\\]<> ]+\\([^;]*\\) \\{")) {
                began = i;
            } else if (began >= 0 && line.matches(" {4,8}\\}")
                    && line.indexOf('}') == lines.get(began).length() - lines.get(began).stripLeading().length()) {
                check(i - began < MOST_LINES, "a method of " + (i - began) + " lines at line " + (began + 1));
                began = -1;
            }
        }
    }
}
