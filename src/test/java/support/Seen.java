import java.util.ArrayList;
import java.util.List;

/**
 * All that further calls can show of an object: how it stands, and how it would stand behind each undo,
 * each back and a lay; each view is taken of an object of its own, on which the same calls have been made.
 */
final class Seen {
    private static final int UNDOS = 9, BACKS = 3;
    private final List<String> lines = new ArrayList<>();

    static Seen of(String... calls) {
        Seen s = new Seen();
        s.now("now", Script.after(calls));
        for (int undos = 1; undos <= UNDOS; undos++) s.behind("undo", undos, calls);
        for (int backs = 1; backs <= BACKS; backs++) s.behind("back", backs, calls);
        s.behind("lay", 1, calls);
        s.behind("note 1 0 0", 1, calls);
        return s;
    }

    /** Only how it stands, without what can be undone. */
    static Seen standing(String... calls) {
        Seen s = new Seen();
        s.walls("now", Script.after(calls));
        return s;
    }

    private void behind(String call, int times, String[] calls) {
        WallTrumpets x = Script.after(calls);
        String name = times + " times " + call;
        for (int i = 0; i < times; i++) add(name, "answer", Script.call(x, call));
        now(name, x);
    }

    private void now(String name, WallTrumpets x) {
        walls(name, x);
        for (int what = 6; what < 10; what++) add(name, "count " + what, x.count(what));
        for (int what = 0; what < 2; what++) add(name, "thick " + what, x.thick(what));
        add(name, "fault", x.fault());
    }

    private void walls(String name, WallTrumpets x) {
        for (int what = 0; what < 6; what++) add(name, "count " + what, x.count(what));
        for (int w = 0; w < x.count(0); w++) {
            for (int what = 0; what < 8; what++) add(name, "wall " + w + " " + what, x.wall(w, what));
            for (int b = 0; b < x.count(0); b++) add(name, "holds " + w + " " + b, x.holds(w, b));
        }
    }

    private void add(String name, String call, int answer) {
        lines.add(name + ": " + call + " = " + answer);
    }

    /** The first thing that is not alike, or nothing. */
    String unlike(Seen other) {
        int all = Math.max(lines.size(), other.lines.size());
        for (int i = 0; i < all; i++) {
            String mine = i < lines.size() ? lines.get(i) : "nothing";
            String its = i < other.lines.size() ? other.lines.get(i) : "nothing";
            if (!mine.equals(its)) return mine + " against " + its;
        }
        return "";
    }

    /** Tells it if the two are not alike. */
    static void alike(String name, Seen one, Seen other) {
        String unlike = one.unlike(other);
        Due.isTrue(name + ": " + unlike, unlike.isEmpty());
    }
}
