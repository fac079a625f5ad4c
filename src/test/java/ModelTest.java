import java.util.Random;

/** Runs of drawn calls on the class and on the slow model, which must answer alike. */
public final class ModelTest {
    /** With what is asked behind it, a run stays near the 512 calls that an object is used for. */
    private static final int RUNS = 2000, CALLS = 250;
    private static final int TOWNS_OF_DOUBLES = 30;

    private final Random draw;
    private final WallTrumpets x = new WallTrumpets();
    private final Model m = new Model();
    private final int run;
    private int call = 0;

    private ModelTest(int run) {
        this.run = run;
        this.draw = new Random(run);
    }

    public static void main(String[] args) {
        for (int run = 0; run < RUNS; run++) new ModelTest(run).play();
        for (int run = 0; run < TOWNS_OF_DOUBLES; run++) new ModelTest(run).playDoubles();
        Due.end();
    }

    // The most orders that there can be: too dear for the model to be asked often.
    private void playDoubles() {
        StringBuilder s = new StringBuilder();
        for (int i = 0; i < 5; i++) s.append("w3,").append(1 + draw.nextInt(18)).append(',').append(draw.nextInt(8)).append(';');
        for (int i = draw.nextInt(15); i > 0; i--) {
            int a = draw.nextInt(5);
            s.append('h').append(a).append(',').append((a + 1 + draw.nextInt(4)) % 5).append(',').append(1 + draw.nextInt(10)).append(';');
        }
        write(s.toString());
        due("lay of " + s, x.lay(), m.lay());
        for (int i = draw.nextInt(20); i > 0; i--) {
            int w = w();
            due("round " + w, x.round(w), m.round(w));
        }
        int[] want = m.wholeOrder();
        for (int k = -1; k < 10; k++) due("order " + k + " of " + s, x.order(k), want[k + 1]);
    }

    private void due(String name, int got, int want) {
        Due.is("run " + run + ", call " + call + ": " + name, got, want);
        call++;
    }

    // Mostly among the numbers told, now and then one beside them.
    private int near(int least, int most) {
        if (draw.nextInt(25) == 0) return draw.nextBoolean() ? least - 1 : most + 1;
        return least + draw.nextInt(most - least + 1);
    }

    private int w() {
        return near(0, draw.nextInt(8) == 0 ? 4 : Math.max(0, m.count(0) - 1));
    }

    private void play() {
        if (draw.nextInt(5) > 0) layTown();
        int acts = 10 + draw.nextInt(90);
        while (call < CALLS) {
            int dice = draw.nextInt(100);
            if (dice < acts / 2 + 20) act();
            else if (dice < 90) ask();
            else if (dice < 99) noteOrKeep();
            else layTown();
        }
        askAll();
    }

    private void write(String text) {
        due("wipe", x.wipe(), m.wipe());
        for (int i = 0; i < text.length(); i++) due("write", x.write(text.charAt(i)), m.write(text.charAt(i)));
    }

    private void layTown() {
        StringBuilder s = new StringBuilder();
        int persons = draw.nextInt(12) == 0 ? 0 : 1 + draw.nextInt(5);
        int thick = draw.nextInt(3) == 0 ? 60 : draw.nextBoolean() ? 9 : 20;
        int held = draw.nextInt(3) == 0 ? 40 : 12;
        int kind = draw.nextInt(4);
        int doubles = 0;
        for (int i = 0; i < persons; i++) {
            int k = draw.nextBoolean() ? kind : draw.nextInt(4);
            // The model walks through all orders: more than three double walls take it too long.
            if (k == 3 && ++doubles > 3) k = 0;
            s.append('w').append(k).append(',').append(1 + draw.nextInt(thick)).append(',').append(draw.nextInt(8)).append(';');
        }
        for (int i = draw.nextInt(12); i > 0 && persons > 1; i--) {
            int a = draw.nextInt(persons);
            int b = (a + 1 + draw.nextInt(persons - 1)) % persons;
            s.append('h').append(a).append(',').append(b).append(',').append(1 + draw.nextInt(held)).append(';');
        }
        if (draw.nextBoolean()) s.append('s').append(draw.nextInt(61)).append(';');
        if (draw.nextInt(4) == 0) spoil(s);
        write(s.toString());
        due("fault of " + s, x.fault(), m.fault());
        due("lay of " + s, x.lay(), m.lay());
    }

    private void spoil(StringBuilder s) {
        String signs = "wwhs0123456789,;; x";
        for (int i = draw.nextInt(3); i >= 0 && s.length() > 0; i--) {
            int at = draw.nextInt(s.length());
            char sign = signs.charAt(draw.nextInt(signs.length()));
            if (draw.nextBoolean()) s.setCharAt(at, sign);
            else if (draw.nextBoolean()) s.insert(at, sign);
            else s.deleteCharAt(at);
        }
    }

    private void act() {
        int w = w(), a = w(), n = near(1, 9);
        switch (draw.nextInt(12)) {
            case 0: case 1: case 2: case 3: due("round " + w, x.round(w), m.round(w)); break;
            case 4: case 5: case 6: due("blast " + w + "," + n, x.blast(w, n), m.blast(w, n)); break;
            case 7: n = near(1, 24); due("pass " + n, x.pass(n), m.pass(n)); break;
            case 8: case 9: n = draw.nextInt(3) == 0 ? 0 : near(0, 40); due("prop " + w + "," + a + "," + n, x.prop(w, a, n), m.prop(w, a, n)); break;
            case 10: n = near(1, draw.nextBoolean() ? 9 : 60); due("use " + n, x.use(n), m.use(n)); break;
            default: due("undo", x.undo(), m.undo());
        }
        state();
    }

    private void state() {
        int what = near(0, 9), w = w(), a = w(), of = near(0, 7);
        due("count " + what, x.count(what), m.count(what));
        due("wall " + w + "," + of, x.wall(w, of), m.wall(w, of));
        due("holds " + w + "," + a, x.holds(w, a), m.holds(w, a));
    }

    private void ask() {
        int w = w(), a = w(), n = near(1, 9), what = near(0, 1), t = near(0, 10);
        switch (draw.nextInt(9)) {
            case 0: due("calls " + w, x.calls(w), m.calls(w)); break;
            case 1: due("rounds " + w + "," + n, x.rounds(w, n), m.rounds(w, n)); break;
            case 2: due("key " + what, x.key(what), m.key(what)); break;
            case 3: n = near(-1, 9); due("order " + n, x.order(n), m.order(n)); break;
            case 4: due("save " + w + "," + a, x.save(w, a), m.save(w, a)); break;
            case 5: due("built " + what, x.built(what), m.built(what)); break;
            case 6: due("fail " + w + "," + n + "," + t + "," + what, x.fail(w, n, t, what), m.fail(w, n, t, what)); break;
            case 7: {
                int z = near(0, 9999), d = near(1, 60), k = near(0, 2);
                due("year " + z + "," + d + "," + k, x.year(z, d, k), m.year(z, d, k));
                break;
            }
            default: due("thick " + what, x.thick(what), m.thick(what));
        }
    }

    private void noteOrKeep() {
        int n = near(1, 9), r = near(0, 7), f = draw.nextInt(4) == 0 ? near(0, 1) : 0;
        switch (draw.nextInt(8)) {
            case 0: case 1: case 2: due("note " + n + "," + r + "," + f, x.note(n, r, f), m.note(n, r, f)); break;
            case 3: due("forget", x.forget(), m.forget()); break;
            case 4: case 5: due("keep", x.keep(), m.keep()); break;
            default: due("back", x.back(), m.back());
        }
    }

    private void askAll() {
        for (int what = -1; what <= 10; what++) due("count " + what, x.count(what), m.count(what));
        for (int w = -1; w <= 5; w++) {
            for (int what = -1; what <= 8; what++) due("wall " + w + "," + what, x.wall(w, what), m.wall(w, what));
            for (int b = -1; b <= 5; b++) {
                due("holds " + w + "," + b, x.holds(w, b), m.holds(w, b));
                due("save " + w + "," + b, x.save(w, b), m.save(w, b));
            }
            due("calls " + w, x.calls(w), m.calls(w));
        }
        for (int k = -2; k <= 10; k++) due("order " + k, x.order(k), m.order(k));
        for (int what = -1; what <= 2; what++) {
            due("key " + what, x.key(what), m.key(what));
            due("built " + what, x.built(what), m.built(what));
            due("thick " + what, x.thick(what), m.thick(what));
        }
    }
}
