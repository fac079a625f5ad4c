import java.io.IOException;
import java.nio.file.Files;
import java.nio.file.Path;
import java.util.ArrayList;
import java.util.List;
import java.util.Map;
import java.util.Set;
import java.util.TreeSet;
import java.util.regex.Matcher;
import java.util.regex.Pattern;
import java.util.stream.Stream;

/** What README.md shows of calls and answers is so; it shows each call of the face, and names each test. */
public final class ReadmeTest {
    private static final Pattern MADE = Pattern.compile("WallTrumpets x = new WallTrumpets\\(\\);.*");
    private static final Pattern WRITTEN = Pattern.compile("for \\(char c : \"(.*)\"\\.toCharArray\\(\\)\\) x\\.write\\(c\\);.*");
    private static final Pattern ASKED = Pattern.compile("x\\.(\\w+)\\(([^)]*)\\);\\s+// (-?\\w+)\\b.*");
    private static final Map<String, Integer> NAMES = Map.of("BAD", -1, "NO", -2, "FULL", -3, "NONE", -4);

    private final Set<String> shown = new TreeSet<>();
    private WallTrumpets x = null;
    private int calls = 0;

    public static void main(String[] args) throws IOException {
        List<String> lines = Files.readAllLines(Path.of("README.md"));
        ReadmeTest test = new ReadmeTest();
        for (String line : javaLines(lines)) test.play(line);
        test.endOfObject();
        for (var m : WallTrumpets.class.getDeclaredMethods()) {
            boolean isFace = java.lang.reflect.Modifier.isPublic(m.getModifiers());
            Due.isTrue("README.md shows " + m.getName(), !isFace || test.shown.contains(m.getName()));
        }
        namesAllTests(String.join("\n", lines));
        Due.end();
    }

    private static List<String> javaLines(List<String> lines) {
        List<String> found = new ArrayList<>();
        boolean isJava = false;
        for (String line : lines) {
            if (line.startsWith("```")) isJava = line.equals("```java");
            else if (isJava && !line.isBlank()) found.add(line);
        }
        return found;
    }

    private void play(String line) {
        Matcher written = WRITTEN.matcher(line);
        Matcher asked = ASKED.matcher(line);
        if (MADE.matcher(line).matches()) {
            endOfObject();
            x = new WallTrumpets();
        } else if (x != null && written.matches()) {
            calls += written.group(1).length();
            Script.call(x, "text " + written.group(1));
            shown.add("write");
        } else if (x != null && asked.matches()) {
            calls++;
            shown.add(asked.group(1));
            Due.is("README.md: " + line, Script.call(x, words(asked.group(1), asked.group(2))), answer(asked.group(3)));
        } else {
            Due.isTrue("README.md has a line that is not understood: " + line, false);
        }
    }

    private static String words(String name, String numbers) {
        StringBuilder words = new StringBuilder(name);
        for (String n : numbers.isBlank() ? new String[0] : numbers.split(",\\s*")) {
            words.append(' ').append(n.startsWith("'") ? String.valueOf((int) n.charAt(1)) : n);
        }
        return words.toString();
    }

    private static int answer(String told) {
        Integer named = NAMES.get(told);
        return named != null ? named : Integer.parseInt(told);
    }

    private void endOfObject() {
        Due.isTrue("README.md uses an object for 512 calls at most: " + calls, calls <= 512);
        calls = 0;
    }

    private static void namesAllTests(String readme) throws IOException {
        try (Stream<Path> files = Files.list(Path.of("src/test/java"))) {
            files.map(f -> f.getFileName().toString()).filter(f -> f.endsWith("Test.java")).sorted()
                .forEach(f -> Due.isTrue("README.md names " + f, readme.contains(f)));
        }
        Due.isTrue("README.md tells how to run the tests", readme.contains(".ci/run"));
    }
}
