import java.math.BigInteger;
import java.util.ArrayDeque;
import java.util.ArrayList;
import java.util.Arrays;
import java.util.Deque;
import java.util.List;
import java.util.TreeMap;
import java.util.regex.Matcher;
import java.util.regex.Pattern;

/** The document told once more, slowly and with the Java library: what the class is compared with. */
final class Model {
    static final int BAD = -1, NO = -2, FULL = -3, NONE = -4;
    private static final String FIRST =
        "w0,12,1;w1,20,0;w2,8,3;w3,15,2;w0,30,4;h0,1,9;h1,4,12;h4,2,5;h3,4,10;h2,0,6;s4;";

    static final class Wall {
        int kind, laid, lean, thick, rounded, hurt;
        boolean down, fellOnce;

        Wall copy() {
            Wall c = new Wall();
            c.kind = kind; c.laid = laid; c.lean = lean; c.thick = thick;
            c.rounded = rounded; c.hurt = hurt; c.down = down; c.fellOnce = fellOnce;
            return c;
        }
    }

    static final class State {
        List<Wall> walls = new ArrayList<>();
        TreeMap<String, Integer> props = new TreeMap<>();
        int stones, days;

        State copy() {
            State c = new State();
            for (Wall w : walls) c.walls.add(w.copy());
            c.props.putAll(props);
            c.stones = stones;
            c.days = days;
            return c;
        }

        int held(int a, int b) {
            return props.getOrDefault(a + ">" + b, 0);
        }

        void hold(int a, int b, int s) {
            if (s == 0) props.remove(a + ">" + b); else props.put(a + ">" + b, s);
        }

        void round(int w) {
            Wall x = walls.get(w);
            for (int i = 0; i < (x.kind == 2 ? 2 : 1); i++) if (x.rounded < 7) x.rounded++;
        }

        int blast(int w, int n) {
            Wall x = walls.get(w);
            if (n * (x.rounded + 1) < x.thick) {
                x.thick = x.thick - n < 1 ? 1 : x.thick - n;
                x.rounded = 0;
                return 0;
            }
            boolean inward = x.rounded >= x.lean;
            fall(w, inward);
            return inward ? 1 : 2;
        }

        void fall(int w, boolean inward) {
            Wall x = walls.get(w);
            x.rounded = 0;
            if (inward) stones += x.laid;
            else if (w + 1 < walls.size()) walls.get(w + 1).hurt++;
            if (x.kind == 3 && !x.fellOnce) {
                x.fellOnce = true;
                x.thick = x.laid / 2 + 1;
                return;
            }
            x.down = true;
            x.thick = 0;
            List<Integer> thin = new ArrayList<>();
            for (int b = 0; b < walls.size(); b++) {
                Wall y = walls.get(b);
                if (b == w || y.down || held(w, b) == 0) continue;
                y.thick -= held(w, b);
                if (y.thick <= 0) thin.add(b);
            }
            for (int b : thin) {
                if (!walls.get(b).down && walls.get(b).thick <= 0) fall(b, true);
            }
        }

        void day() {
            for (Wall x : walls) if (x.kind == 1 && !x.down && x.thick < 99) x.thick++;
            days++;
        }

        int calls(int w) {
            Wall x = walls.get(w);
            int due = (x.thick + x.rounded) / (x.rounded + 1);
            return due <= 9 ? due : NONE;
        }

        int downs() {
            return (int) walls.stream().filter(x -> x.down).count();
        }

        int hurts() {
            return walls.stream().mapToInt(x -> x.hurt).sum();
        }
    }

    private final StringBuilder text = new StringBuilder();
    private State now;
    private Deque<State> past = new ArrayDeque<>();
    private final Deque<State> kept = new ArrayDeque<>();
    private final List<int[]> noted = new ArrayList<>();

    Model() {
        now = (State) read(FIRST)[1];
    }

    // The fault, and the town that is told.
    private static Object[] read(String text) {
        State s = new State();
        Pattern item = Pattern.compile("(?:([wh])(\\d\\d?),(\\d\\d?),(\\d\\d?)|s(\\d\\d?));");
        int at = 0;
        while (at < text.length()) {
            Matcher m = item.matcher(text).region(at, text.length());
            if (!m.lookingAt() || !isTaken(m, s)) return new Object[] {at, s};
            at = m.end();
        }
        return new Object[] {NONE, s};
    }

    private static boolean isTaken(Matcher m, State s) {
        if (m.group(1) == null) {
            int n = Integer.parseInt(m.group(5));
            if (n > 60) return false;
            s.stones = n;
            return true;
        }
        int a = Integer.parseInt(m.group(2)), b = Integer.parseInt(m.group(3)), c = Integer.parseInt(m.group(4));
        if (m.group(1).equals("h")) {
            if (a == b || a >= s.walls.size() || b >= s.walls.size() || c < 1 || c > 40) return false;
            s.hold(a, b, c);
            return true;
        }
        if (s.walls.size() == 5 || a > 3 || b < 1 || b > 60 || c > 7) return false;
        Wall w = new Wall();
        w.kind = a;
        w.laid = b;
        w.thick = b;
        w.lean = c;
        s.walls.add(w);
        return true;
    }

    private boolean no(int w) {
        return w < 0 || w >= now.walls.size();
    }

    private void remember() {
        past.addLast(now.copy());
        if (past.size() > 8) past.removeFirst();
    }

    int write(int letter) {
        if (letter < 32 || letter > 126) return BAD;
        if (text.length() == 200) return FULL;
        text.append((char) letter);
        return text.length();
    }

    int wipe() {
        int was = text.length();
        text.setLength(0);
        return was;
    }

    int fault() {
        return (Integer) read(text.toString())[0];
    }

    int lay() {
        Object[] told = read(text.toString());
        State s = (State) told[1];
        if ((Integer) told[0] != NONE || s.walls.isEmpty()) return NO;
        now = s;
        past.clear();
        kept.clear();
        noted.clear();
        return s.walls.size();
    }

    int wall(int w, int what) {
        if (no(w) || what < 0 || what > 7) return BAD;
        Wall x = now.walls.get(w);
        return new int[] {x.kind, x.laid, x.lean, x.thick, x.down ? 1 : 0, x.rounded, x.hurt, x.fellOnce ? 1 : 0}[what];
    }

    int holds(int a, int b) {
        return no(a) || no(b) || a == b ? BAD : now.held(a, b);
    }

    int round(int w) {
        if (no(w)) return BAD;
        if (now.walls.get(w).down) return NO;
        if (now.walls.get(w).rounded == 7) return FULL;
        remember();
        now.round(w);
        return now.walls.get(w).rounded;
    }

    int blast(int w, int n) {
        if (no(w) || n < 1 || n > 9) return BAD;
        if (now.walls.get(w).down) return NO;
        remember();
        return now.blast(w, n);
    }

    int pass(int n) {
        if (n < 1 || n > 24) return BAD;
        remember();
        for (int i = 0; i < n; i++) now.day();
        return now.days;
    }

    int prop(int a, int b, int s) {
        if (no(a) || no(b) || a == b || s < 0 || s > 40) return BAD;
        int was = now.held(a, b);
        if (was == s) return NO;
        remember();
        now.hold(a, b, s);
        return was;
    }

    int use(int n) {
        if (n < 1 || n > 60) return BAD;
        if (n > now.stones) return NO;
        remember();
        return now.stones -= n;
    }

    int undo() {
        if (past.isEmpty()) return NO;
        now = past.removeLast();
        return past.size();
    }

    int calls(int w) {
        if (no(w)) return BAD;
        return now.walls.get(w).down ? NO : now.calls(w);
    }

    int rounds(int w, int n) {
        if (no(w) || n < 1 || n > 9) return BAD;
        if (now.walls.get(w).down) return NO;
        for (int more = 0; more <= 7; more++) {
            State s = now.copy();
            for (int i = 0; i < more; i++) s.round(w);
            if (s.blast(w, n) == 1) return more;
        }
        return NONE;
    }

    int key(int what) {
        if (what < 0 || what > 1) return BAD;
        int which = NONE, most = NONE;
        for (int w = now.walls.size() - 1; w >= 0; w--) {
            if (now.walls.get(w).down) continue;
            State s = now.copy();
            s.fall(w, true);
            int others = 0;
            for (int b = 0; b < s.walls.size(); b++) {
                if (b != w && s.walls.get(b).down && !now.walls.get(b).down) others++;
            }
            if (others >= most) {
                most = others;
                which = w;
            }
        }
        return what == 0 ? which : most;
    }

    private int bestSum;
    private int[] bestOrder;

    private void orders(State s, int[] ahead, int sum) {
        if (s.downs() == s.walls.size()) {
            if (bestOrder == null || sum < bestSum || sum == bestSum && Arrays.compare(ahead, bestOrder) < 0) {
                bestSum = sum;
                bestOrder = ahead;
            }
            return;
        }
        for (int w = s.walls.size() - 1; w >= 0; w--) {
            if (s.walls.get(w).down) continue;
            int n = s.calls(w);
            if (n == NONE) continue;
            State next = s.copy();
            next.blast(w, n);
            int[] path = Arrays.copyOf(ahead, ahead.length + 1);
            path[ahead.length] = w;
            orders(next, path, sum + n);
        }
    }

    /** The answers for k from -1 to 9. */
    int[] wholeOrder() {
        bestOrder = null;
        orders(now, new int[0], 0);
        int[] all = new int[11];
        Arrays.fill(all, NONE);
        if (bestOrder == null) return all;
        all[0] = bestSum;
        System.arraycopy(bestOrder, 0, all, 1, bestOrder.length);
        return all;
    }

    int order(int k) {
        return k < -1 || k > 9 ? BAD : wholeOrder()[k + 1];
    }

    int save(int w, int by) {
        if (no(w) || no(by) || w == by) return BAD;
        if (now.walls.get(w).down || now.walls.get(by).down) return NO;
        for (int many = 0; many <= 5; many++) {
            for (int set = 0; set < 32; set++) {
                if (Integer.bitCount(set) != many) continue;
                State s = now.copy();
                boolean areHolders = true;
                for (int a = 0; a < 5; a++) {
                    if ((set & 1 << a) == 0) continue;
                    areHolders &= s.held(a, w) > 0;
                    s.hold(a, w, 0);
                }
                s.fall(by, true);
                if (areHolders && !s.walls.get(w).down) return set;
            }
        }
        throw new IllegalStateException("no set saves");
    }

    int built(int what) {
        if (what < 0 || what > 1) return BAD;
        int ways = 0, fewest = Integer.MAX_VALUE;
        for (int a = 0; a <= now.stones; a++) {
            for (int b = 0; a * 3 + b * 5 <= now.stones; b++) {
                int left = now.stones - a * 3 - b * 5;
                if (left % 8 != 0) continue;
                ways++;
                fewest = Math.min(fewest, a + b + left / 8);
            }
        }
        return what == 0 ? ways : ways == 0 ? NONE : fewest;
    }

    int note(int n, int r, int felled) {
        if (n < 1 || n > 9 || r < 0 || r > 7 || felled < 0 || felled > 1) return BAD;
        if (noted.size() == 6) return FULL;
        for (int[] x : noted) if (x[2] == 1) return NO;
        noted.add(new int[] {n, r, felled});
        return noted.size();
    }

    int forget() {
        int were = noted.size();
        noted.clear();
        return were;
    }

    int thick(int what) {
        if (what < 0 || what > 1) return BAD;
        List<Integer> all = new ArrayList<>();
        for (int t = 1; t <= 60; t++) {
            int left = t;
            boolean could = true;
            for (int[] x : noted) {
                could &= (x[0] * (x[1] + 1) >= left) == (x[2] == 1);
                left = Math.max(1, left - x[0]);
            }
            if (could) all.add(t);
        }
        return what == 0 ? all.size() : all.isEmpty() ? NONE : all.get(0);
    }

    int fail(int w, int n, int x, int part) {
        if (no(w) || n < 1 || n > 9 || x < 0 || x > 10 || part < 0 || part > 1) return BAD;
        if (now.walls.get(w).down) return NO;
        BigInteger above = BigInteger.ZERO;
        for (int set = 1; set < 1 << n; set++) {
            State s = now.copy();
            int sounding = Integer.bitCount(set);
            if (s.blast(w, sounding) == 0) continue;
            above = above.add(BigInteger.valueOf(10 - x).pow(sounding).multiply(BigInteger.valueOf(x).pow(n - sounding)));
        }
        BigInteger below = BigInteger.TEN.pow(n);
        return (part == 0 ? above : below).divide(above.gcd(below)).intValueExact();
    }

    int year(int z, int n, int what) {
        if (z < 0 || z > 9999 || n < 1 || n > 60 || what < 0 || what > 2) return BAD;
        State s = now.copy();
        for (int k = 0; k < n; k++) {
            BigInteger x = BigInteger.valueOf(7919L * z + 6151L * k + 1);
            int draw = x.multiply(x).mod(BigInteger.valueOf(65521)).intValueExact();
            int w = (draw >> 3) % s.walls.size();
            if (!s.walls.get(w).down) {
                if ((draw & 7) < 4) s.round(w);
                else if ((draw & 7) == 4) s.blast(w, (draw >> 6) % 9 + 1);
            }
            s.day();
        }
        return what == 0 ? s.downs() : what == 1 ? s.stones : s.hurts();
    }

    int keep() {
        if (kept.size() == 2) return FULL;
        kept.push(now.copy());
        return kept.size();
    }

    int back() {
        if (kept.isEmpty()) return NO;
        now = kept.pop();
        past.clear();
        return kept.size();
    }

    int count(int what) {
        switch (what) {
            case 0: return now.walls.size();
            case 1: return now.days;
            case 2: return now.downs();
            case 3: return now.stones;
            case 4: return now.hurts();
            case 5: return now.props.size();
            case 6: return noted.size();
            case 7: return past.size();
            case 8: return kept.size();
            case 9: return text.length();
            default: return BAD;
        }
    }
}
