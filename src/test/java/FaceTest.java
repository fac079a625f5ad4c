import java.lang.reflect.Constructor;
import java.lang.reflect.Field;
import java.lang.reflect.Method;
import java.lang.reflect.Modifier;
import java.util.IdentityHashMap;
import java.util.Map;
import java.util.Set;
import java.util.TreeSet;

/** The face is the document's and no more (LANGUAGE.md, rules 1, 5 and 11), and an object takes little room. */
public final class FaceTest {
    private static final String[] FACE = {"write 1", "wipe 0", "fault 0", "lay 0", "wall 2", "holds 2", "round 1", "blast 2",
        "pass 1", "prop 3", "use 1", "undo 0", "calls 1", "rounds 2", "key 1", "order 1", "save 2", "built 1", "note 3",
        "forget 0", "thick 1", "fail 4", "year 3", "keep 0", "back 0", "count 1"};
    /** A run's room holds some 600,000 objects; this leaves it to thousands of objects of the class. */
    private static final int MOST_OBJECTS = 250, MOST_ELEMENTS = 5000;

    public static void main(String[] args) throws Exception {
        constants();
        methods();
        fields(WallTrumpets.class);
        for (Class<?> c : WallTrumpets.class.getDeclaredClasses()) {
            Due.isTrue("static: " + c, Modifier.isStatic(c.getModifiers()));
            Due.isTrue("not public, not protected: " + c, (c.getModifiers() & (Modifier.PUBLIC | Modifier.PROTECTED)) == 0);
            fields(c);
        }
        room();
        Due.end();
    }

    private static void constants() {
        Due.is("BAD", WallTrumpets.BAD, -1);
        Due.is("NO", WallTrumpets.NO, -2);
        Due.is("FULL", WallTrumpets.FULL, -3);
        Due.is("NONE", WallTrumpets.NONE, -4);
        Due.isTrue("public and final", (WallTrumpets.class.getModifiers() & (Modifier.PUBLIC | Modifier.FINAL)) == 17);
    }

    private static void methods() {
        Set<String> due = new TreeSet<>(Set.of(FACE));
        Set<String> names = new TreeSet<>();
        for (String s : FACE) names.add(s.substring(0, s.indexOf(' ')));
        Set<String> seen = new TreeSet<>();
        for (Method m : WallTrumpets.class.getDeclaredMethods()) {
            boolean isFace = Modifier.isPublic(m.getModifiers());
            if (isFace) seen.add(m.getName() + " " + m.getParameterCount());
            Due.isTrue("public or private: " + m, isFace || Modifier.isPrivate(m.getModifiers()));
            Due.isTrue("answers an int: " + m, !isFace || m.getReturnType() == int.class);
            Due.isTrue("a name of its own: " + m, isFace || !names.contains(m.getName()));
            Due.isTrue("seven parameters at most: " + m, m.getParameterCount() <= 7);
        }
        Due.isTrue("the methods of the face: " + seen, seen.equals(due));
        Constructor<?>[] made = WallTrumpets.class.getDeclaredConstructors();
        Due.isTrue("one constructor", made.length == 1 && made[0].getParameterCount() == 0 && Modifier.isPublic(made[0].getModifiers()));
    }

    private static void fields(Class<?> c) {
        Set<String> open = new TreeSet<>();
        int own = 0;
        for (Field f : c.getDeclaredFields()) {
            if (!Modifier.isPrivate(f.getModifiers())) open.add(f.getName());
            if (Modifier.isStatic(f.getModifiers())) Due.isTrue("final: " + f, Modifier.isFinal(f.getModifiers()));
            else own++;
        }
        Due.isTrue("twenty fields at most: " + c, own <= 20);
        if (c == WallTrumpets.class) Due.isTrue("open fields " + open, open.equals(Set.of("BAD", "NO", "FULL", "NONE")));
    }

    private static void room() throws Exception {
        WallTrumpets x = new WallTrumpets();
        int[] fresh = roomOf(x);
        Due.isTrue("objects: " + fresh[0], fresh[0] <= MOST_OBJECTS);
        Due.isTrue("fields and elements: " + fresh[1], fresh[1] <= MOST_ELEMENTS);
        for (int i = 0; i < 20; i++) {
            x.round(i % 5);
            x.blast(i % 5, 3);
            x.order(-1);
            x.year(i, 60, 0);
            x.keep();
            x.note(1, 1, 0);
        }
        int[] used = roomOf(x);
        Due.is("objects kept by calls", used[0], fresh[0]);
        Due.is("elements kept by calls", used[1], fresh[1]);
    }

    private static int[] roomOf(Object root) throws Exception {
        Map<Object, Boolean> seen = new IdentityHashMap<>();
        int[] sums = new int[2];
        walk(root, seen, sums);
        return sums;
    }

    private static void walk(Object o, Map<Object, Boolean> seen, int[] sums) throws Exception {
        if (o == null || seen.put(o, true) != null) return;
        sums[0]++;
        if (o.getClass().isArray()) {
            sums[1] += java.lang.reflect.Array.getLength(o);
            if (o instanceof Object[] all) for (Object e : all) walk(e, seen, sums);
            return;
        }
        for (Field f : o.getClass().getDeclaredFields()) {
            if (Modifier.isStatic(f.getModifiers())) continue;
            sums[1]++;
            f.setAccessible(true);
            if (!f.getType().isPrimitive()) walk(f.get(o), seen, sums);
        }
    }
}
