import java.io.DataInputStream;
import java.io.IOException;
import java.io.InputStream;
import java.lang.management.ManagementFactory;
import java.lang.reflect.Method;
import java.nio.file.Files;
import java.nio.file.Path;
import java.util.ArrayList;
import java.util.List;
import java.util.Set;
import java.util.TreeSet;

/** The class keeps to LANGUAGE.md, as far as its file, its compiled classes and its calls show. */
public final class LanguageTest {
    /** What the class uses of rule 4's library; another member that rule 4 lists may be put here. */
    private static final Set<String> LIBRARY = Set.of("java/lang/Object.<init>", "java/lang/String.length",
        "java/lang/String.charAt", "java/lang/Integer.bitCount", "java/lang/Math.min", "java/lang/Math.max",
        "java/lang/System.arraycopy", "java/util/Arrays.fill");
    private static final String[] LEFT_OUT = {"->", "::", "throw", "throws", "try", "catch", "finally", "synchronized", "assert",
        "volatile", "transient", "native", "double", "float", "var", "static {", "instanceof", "hashCode", "toString"};
    private static final int MOST_LINES = 60, MOST_CLASSES = 12;

    public static void main(String[] args) throws IOException {
        List<String> lines = Files.readAllLines(Path.of("src/main/java/WallTrumpets.java"));
        source(lines);
        methodsAreShort(lines);
        List<Class<?>> all = new ArrayList<>(List.of(WallTrumpets.class));
        all.addAll(List.of(WallTrumpets.class.getDeclaredClasses()));
        Due.isTrue("twelve classes at most: " + all.size(), all.size() <= MOST_CLASSES);
        for (Class<?> c : all) {
            library(c);
            methods(c);
        }
        callsMakeNoObjects();
        Due.end();
    }

    // Rules 2, 3, 4, 6: words that stand for what is left out, outside comments.
    private static void source(List<String> lines) {
        for (String line : lines) {
            Due.isTrue("only signs up to 126: " + line, line.chars().allMatch(c -> c >= 32 && c < 127));
            if (line.startsWith("package")) Due.isTrue("no package", false);
            if (line.startsWith("import")) Due.isTrue(line, line.equals("import java.util.Arrays;"));
            String code = line.replaceAll("//.*", "").trim();
            if (code.startsWith("/*") || code.startsWith("*")) continue;
            for (String word : LEFT_OUT) {
                boolean isWord = Character.isLetter(word.charAt(0));
                boolean has = isWord ? code.matches(".*\\b" + java.util.regex.Pattern.quote(word) + "(\\b.*|$)") : code.contains(word);
                Due.isTrue("without " + word + ": " + line, !has);
            }
        }
    }

    // Rule 11: the file is indented by four, so a method's last line is a brace below its first line.
    private static void methodsAreShort(List<String> lines) {
        for (int i = 0; i < lines.size(); i++) {
            String line = lines.get(i);
            String indent = line.substring(0, line.length() - line.stripLeading().length());
            boolean isHead = line.endsWith(") {") && !line.contains(" class ") && indent.length() <= 8 && !line.strip().matches("(if|for|while|switch)\\b.*");
            if (!isHead) continue;
            int end = i;
            while (end < lines.size() - 1 && !lines.get(end).equals(indent + "}")) end++;
            Due.isTrue("sixty lines at most: " + line, end - i < MOST_LINES);
        }
    }

    private static void methods(Class<?> c) {
        Set<String> face = new TreeSet<>();
        for (Method m : WallTrumpets.class.getDeclaredMethods()) {
            if (java.lang.reflect.Modifier.isPublic(m.getModifiers())) face.add(m.getName());
        }
        for (Method m : c.getDeclaredMethods()) {
            Due.isTrue("seven parameters at most: " + m, m.getParameterCount() <= 7);
            Due.isTrue("a name of its own: " + m, c == WallTrumpets.class || !face.contains(m.getName()));
        }
    }

    // Rule 4: what the compiled class calls or reads of other classes.
    private static void library(Class<?> c) throws IOException {
        String file = c.getName() + ".class";
        try (InputStream in = c.getResourceAsStream(file)) {
            if (in == null) {
                Due.isTrue("found: " + file, false);
                return;
            }
            for (String member : membersUsed(new DataInputStream(in), c.getName())) {
                boolean isOwn = member.startsWith("WallTrumpets.") || member.startsWith("WallTrumpets$");
                Due.isTrue(c.getName() + " uses " + member, isOwn || LIBRARY.contains(member));
            }
        }
    }

    /** The fields and methods in a class file's pool, as owner.name. */
    private static Set<String> membersUsed(DataInputStream in, String name) throws IOException {
        in.readInt();
        in.readInt();
        int size = in.readUnsignedShort();
        String[] words = new String[size];
        int[] first = new int[size], second = new int[size], tags = new int[size];
        for (int i = 1; i < size; i++) {
            int tag = tags[i] = in.readUnsignedByte();
            switch (tag) {
                case 1: words[i] = in.readUTF(); break;
                case 3: case 4: in.readInt(); break;
                case 5: case 6: in.readLong(); i++; break;
                case 7: case 8: first[i] = in.readUnsignedShort(); break;
                case 9: case 10: case 11: case 12: first[i] = in.readUnsignedShort(); second[i] = in.readUnsignedShort(); break;
                default:
                    Due.isTrue(name + " has a lambda or joins texts by + (tag " + tag + ")", false);
                    return Set.of();
            }
        }
        Set<String> members = new TreeSet<>();
        for (int i = 1; i < size; i++) {
            if (tags[i] >= 9 && tags[i] <= 11) members.add(words[first[first[i]]] + "." + words[first[second[i]]]);
        }
        return members;
    }

    // Rule 12, and the one room of all calls: an object makes all its rows as it is made.
    private static void callsMakeNoObjects() {
        var threads = (com.sun.management.ThreadMXBean) ManagementFactory.getThreadMXBean();
        WallTrumpets x = new WallTrumpets();
        everyCall(x, 0);
        threads.getCurrentThreadAllocatedBytes();
        long ahead = threads.getCurrentThreadAllocatedBytes();
        for (int i = 0; i < 1000; i++) everyCall(x, i);
        long made = threads.getCurrentThreadAllocatedBytes() - ahead;
        // One object a round would be 16,000 bytes at least.
        Due.isTrue("calls make no objects: " + made + " bytes", made < 8000);
    }

    private static int everyCall(WallTrumpets x, int i) {
        int sum = x.write("w3,5,1;w0,9,0;h0,1,4;s9;".charAt(i % 24)) + x.fault() + x.lay() + x.wall(i % 5, i % 8) + x.holds(0, 1);
        if (x.count(9) == 24) sum += x.wipe();
        sum += x.round(i % 5) + x.blast(i % 5, i % 9 + 1) + x.pass(1) + x.prop(i % 5, (i + 1) % 5, i % 41) + x.use(1) + (i % 3 == 0 ? x.undo() : 0);
        sum += x.calls(0) + x.rounds(0, 4) + x.key(0) + x.order(-1) + x.save(0, 1) + x.built(0);
        sum += x.note(1, 1, 0) + x.thick(0) + (i % 7 == 0 ? x.forget() : 0);
        return sum + x.fail(0, 5, 3, 0) + x.year(i, 60, 0) + x.keep() + (i % 4 == 0 ? x.back() : 0) + x.count(3);
    }
}
