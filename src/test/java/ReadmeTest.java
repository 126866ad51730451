import java.io.File;
import java.io.IOException;
import java.net.URL;
import java.net.URLClassLoader;
import java.nio.charset.StandardCharsets;
import java.nio.file.Files;
import java.nio.file.Path;
import java.util.ArrayList;
import java.util.List;
import java.util.regex.Matcher;
import java.util.regex.Pattern;

/** What README.md shows: its examples compile and give the answers that stand there; it names all calls and tests. */
public final class ReadmeTest {
    private static final Due due = new Due();
    private static final String NEW_HERO = "HeroSheet x = new HeroSheet();";
    private static final Pattern EXAMPLE =
        Pattern.compile("((?:int|long) (\\w+) = )?(x\\.\\w+\\([^;]*\\));\\s*// (-?\\d+)(?:: .*)?");
    private static final Pattern ROW_OF_A_CALL = Pattern.compile("\\| `(\\w+)\\(.*");

    /** The calls of all examples, as statements that collect what they answer, and what they have to answer. */
    private final StringBuilder code = new StringBuilder();
    private final List<String> calls = new ArrayList<>();
    private final List<Long> answers = new ArrayList<>();

    public static void main(String[] args) throws Exception {
        List<String> lines = Files.readAllLines(Path.of("README.md"), StandardCharsets.UTF_8);
        ReadmeTest examples = new ReadmeTest();
        examples.read(lines);
        examples.compare(run(examples.source()));
        namesEveryCall(lines);
        namesEveryTest(String.join("\n", lines));
        due.end();
    }

    private void read(List<String> lines) {
        boolean inside = false;
        for (int i = 0; i < lines.size(); i++) {
            String line = lines.get(i).trim();
            if (line.equals("```java")) {
                inside = true;
                code.append("{\n");
            } else if (inside && line.equals("```")) {
                inside = false;
                code.append("}\n");
            } else if (inside) {
                readExample(line, "README.md, line " + (i + 1));
            }
        }
        due.is("README.md: an example has no end", inside ? 1 : 0, 0);
        due.is("README.md: it has examples", calls.isEmpty() ? 0 : 1, 1);
    }

    private void readExample(String line, String place) {
        if (line.equals(NEW_HERO)) {
            code.append(line).append('\n');
            return;
        }
        Matcher m = EXAMPLE.matcher(line);
        if (!m.matches()) {
            due.is(place + ": a call with its answer is there", 0, 1);
            return;
        }
        String call = m.group(3);
        if (m.group(1) != null) {
            code.append(m.group(1)).append(call).append(";\n");
            call = m.group(2);
        }
        code.append("got.add((long) ").append(call).append(");\n");
        calls.add(place + ": " + m.group(3));
        answers.add(Long.valueOf(m.group(4)));
    }

    private String source() {
        return "import java.util.ArrayList;\nimport java.util.List;\npublic final class ReadmeUse {\n"
            + "public static List<Long> answers() {\nList<Long> got = new ArrayList<>();\n" + code
            + "return got;\n}\n}\n";
    }

    private static List<?> run(String source) throws Exception {
        Path folder = Files.createTempDirectory("readme");
        Path file = folder.resolve("ReadmeUse.java");
        try {
            Files.writeString(file, source);
            due.is("README.md: its examples compile", compile(folder, file), 0);
            try (URLClassLoader loader = new URLClassLoader(new URL[] {folder.toUri().toURL()})) {
                return (List<?>) loader.loadClass("ReadmeUse").getMethod("answers").invoke(null);
            }
        } finally {
            removeAll(folder);
        }
    }

    private static int compile(Path folder, Path file) throws IOException, InterruptedException {
        String classes = System.getProperty("java.class.path");
        ProcessBuilder javac = new ProcessBuilder("javac", "-cp", classes, "-d", folder.toString(), file.toString());
        return javac.inheritIO().start().waitFor();
    }

    private static void removeAll(Path folder) throws IOException {
        for (File file : folder.toFile().listFiles()) {
            Files.delete(file.toPath());
        }
        Files.delete(folder);
    }

    private void compare(List<?> got) {
        due.is("README.md: calls that answered", got.size(), calls.size());
        for (int i = 0; i < calls.size() && i < got.size(); i++) {
            due.is(calls.get(i), (Long) got.get(i), answers.get(i));
        }
    }

    // The table has a row for each call of the face, in its order.
    private static void namesEveryCall(List<String> lines) {
        List<String> named = new ArrayList<>();
        for (String line : lines) {
            Matcher m = ROW_OF_A_CALL.matcher(line);
            if (m.matches()) {
                named.add(m.group(1));
            }
        }
        String[] face = LanguageTest.FACE.split(" ");
        due.is("README.md: calls in the table", named.size(), face.length);
        for (int i = 0; i < face.length && i < named.size(); i++) {
            String name = face[i].substring(0, face[i].indexOf(':'));
            due.is("README.md: " + name + " is where " + named.get(i) + " stands", named.get(i).equals(name) ? 1 : 0, 1);
        }
    }

    private static void namesEveryTest(String text) {
        for (File file : new File("src/test/java").listFiles()) {
            String name = "`" + file.getName().replace(".java", "") + "`";
            due.is("README.md: it names " + name, text.contains(name) ? 1 : 0, 1);
        }
    }
}
