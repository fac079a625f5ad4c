import java.util.ArrayList;
import java.util.Arrays;
import java.util.List;
import java.util.Set;

/**
 * "BAD: .. NO: .. NONE: .. FULL. Of several the first in this order, whatever the order at a call (but NOTED:
 * FULL ahead of NO); nothing changes then." Each refused call, with its answer, in scenes with nothing there
 * and with all full; what can be seen of the object ahead of it and behind it must be alike.
 */
public final class RefusedTest {
    private static final int BAD = -1, NO = -2, FULL = -3, NONE = -4;
    private static final int LEAST = Integer.MIN_VALUE, MOST = Integer.MAX_VALUE;
    private static final Set<String> QUESTIONS = Set.of("fault", "wall", "holds", "calls", "rounds", "key", "order", "save",
        "built", "thick", "fail", "year", "count");
    /** Five walls and 40 tellings of stones: 200 letters. */
    private static final String FULL_TEXT = "w0,10,0;".repeat(5) + "s10;".repeat(39) + "s11;";

    private static final String[] FIRST = {};
    private static final String[] ONE = {"text w1,60,7;", "lay", "wipe"};
    private static final String[] FILLED = Script.and(Script.and(Script.and(new String[] {"text " + FULL_TEXT, "lay"},
        Script.times(5, "round 0")), "keep", "round 0", "keep", "round 0", "use 1"), Script.and(Script.times(5, "note 1 0 0"), "note 1 0 1"));
    private static final String[] DOWN = {"text w0,1,0;w3,1,7;w2,2,0;h0,1,3;s6;", "lay", "blast 0 1",
        "blast 1 1", "blast 2 2", "write 120"};
    private static final String[] MIXED = {"text w1,9,0;w2,5,7;w3,9,2;w0,50,0;h1,0,3;h0,2,6;h0,3,40;s9;", "lay", "round 0", "keep",
        "round 2", "blast 1 5", "pass 2", "note 9 7 0", "note 1 0 1", "wipe", "text s9;"};

    public static void main(String[] args) {
        badNumbers();
        nothingThere();
        allFull();
        allDown();
        mixed();
        byModel();
        Due.end();
    }

    /** Rows of a call and the answer by which it is refused. */
    private static void refused(String name, String[] scene, Object... rows) {
        Seen ahead = Seen.of(scene);
        for (int i = 0; i < rows.length; i += 2) {
            String call = (String) rows[i];
            Due.is(name + ": " + call, Script.call(Script.after(scene), call), (Integer) rows[i + 1]);
            Seen.alike(name + ": nothing changes by " + call, ahead, Seen.of(Script.and(scene, call)));
        }
    }

    private static void bad(String name, String[] scene, String... calls) {
        for (String call : calls) refused(name, scene, call, BAD);
    }

    private static String around(String call, int number) {
        return call.replace("?", Integer.toString(number));
    }

    /** Each of the numbers in the place of the ?. */
    private static void badIn(String[] scene, String call, int... numbers) {
        for (int number : numbers) bad("a number is none that is told", scene, around(call, number));
    }

    private static void badNumbers() {
        for (String[] scene : new String[][] {FIRST, FILLED, MIXED}) {
            int persons = Script.after(scene).count(0);
            for (String call : new String[] {"wall ? 0", "holds ? 0", "holds 0 ?", "round ?", "blast ? 1", "prop ? 0 1", "prop 0 ? 1",
                "calls ?", "rounds ? 1", "save ? 0", "save 0 ?", "fail ? 1 0 0"}) badIn(scene, call, LEAST, -1, persons, MOST);
            for (String call : new String[] {"blast 0 ?", "rounds 0 ?", "note ? 0 0", "fail 0 ? 0 0"}) badIn(scene, call, LEAST, 0, 10, MOST);
            for (String call : new String[] {"key ?", "built ?", "thick ?", "fail 0 1 0 ?", "note 1 0 ?"}) badIn(scene, call, LEAST, -1, 2, MOST);
            badIn(scene, "write ?", LEAST, -1, 0, 31, 127, 128, 65536 + 'w', MOST);
            badIn(scene, "wall 0 ?", LEAST, -1, 8, MOST);
            badIn(scene, "pass ?", LEAST, -1, 0, 25, MOST);
            badIn(scene, "prop 0 2 ?", LEAST, -1, 41, MOST);
            badIn(scene, "use ?", LEAST, -1, 0, 61, MOST);
            badIn(scene, "order ?", LEAST, -2, 10, MOST);
            badIn(scene, "note 1 ? 0", LEAST, -1, 8, MOST);
            badIn(scene, "fail 0 1 ? 0", LEAST, -1, 11, MOST);
            badIn(scene, "year ? 1 0", LEAST, -1, 10000, MOST);
            badIn(scene, "year 0 ? 0", LEAST, -1, 0, 61, MOST);
            badIn(scene, "year 0 1 ?", LEAST, -1, 3, MOST);
            badIn(scene, "count ?", LEAST, -1, 10, MOST);
            for (int w = 0; w < persons; w++) {
                bad("alike, too", scene, "holds " + w + " " + w, "prop " + w + " " + w + " 1", "prop " + w + " " + w + " 0", "save " + w + " " + w);
            }
        }
    }

    private static void nothingThere() {
        refused("an empty text has no fault", FIRST, "fault", NONE);
        refused("an empty text is none of a person", FIRST, "lay", NO);
        refused("nothing to undo", FIRST, "undo", NO);
        refused("nothing kept", FIRST, "back", NO);
        refused("no prop to take", FIRST, "prop 1 0 0", NO);
        refused("the prop is so", FIRST, "prop 0 1 9", NO);
        refused("not so many stones", FIRST, "use 5", NO, "use 60", NO);
        refused("no stones: BAD ahead of NO", ONE, "use 1", NO, "use 60", NO, "use 61", BAD, "use 0", BAD);
        refused("one person: none beside it", ONE, "prop 0 1 1", BAD, "prop 1 0 1", BAD, "save 0 1", BAD, "holds 0 1", BAD);
        refused("one person: alike", ONE, "prop 0 0 1", BAD, "prop 0 0 0", BAD, "save 0 0", BAD, "holds 0 0", BAD);
        refused("thick by 60, leaning by 7", ONE, "calls 0", NONE, "rounds 0 7", NONE, "order -1", NONE, "order 0", NONE, "order 9", NONE);
        refused("BAD ahead of NONE", ONE, "order 10", BAD, "order -2", BAD, "rounds 0 10", BAD, "calls 1", BAD);
        refused("a text of stones alone", Script.and(ONE, "text s5;"), "lay", NO, "fault", NONE);
        refused("a text with a fault", Script.and(ONE, "text w0,1,0;w"), "lay", NO);
        refused("nothing can be built", FIRST, "built 1", NONE, "built 2", BAD);
        String[] noted = {"note 9 7 0"};
        refused("no wall is so thick", noted, "thick 1", NONE, "thick 2", BAD, "thick -1", BAD);
        refused("undone as often as can be", new String[] {"round 0", "undo"}, "undo", NO);
        refused("back as often as can be", new String[] {"keep", "round 0", "back"}, "back", NO, "undo", NO);
    }

    private static void allFull() {
        refused("200 letters", FILLED, "write 120", FULL, "write 32", FULL, "write 126", FULL);
        refused("200 letters: BAD ahead of FULL", FILLED, "write 31", BAD, "write 127", BAD);
        refused("rounded 7 times", FILLED, "round 0", FULL);
        refused("a shy one, rounded 7 times", new String[] {"round 2", "round 2", "round 2", "round 2"}, "round 2", FULL);
        refused("6 noted, the last one felled: FULL ahead of NO", FILLED, "note 1 0 0", FULL, "note 9 7 1", FULL);
        refused("6 noted: BAD ahead of FULL", FILLED, "note 0 0 0", BAD, "note 10 0 0", BAD, "note 1 8 0", BAD, "note 1 -1 0", BAD, "note 1 0 2", BAD);
        refused("6 noted, none felled", Script.times(6, "note 1 0 0"), "note 1 0 0", FULL, "note 1 0 1", FULL);
        refused("2 kept", FILLED, "keep", FULL);
        refused("one stone too few", FILLED, "use 11", NO);
    }

    private static void allDown() {
        Due.is("all are down", Script.after(DOWN).count(2), 3);
        for (int w = 0; w < 3; w++) {
            refused("it is DOWN", DOWN, "round " + w, NO, "blast " + w + " 1", NO, "blast " + w + " 9", NO, "rounds " + w + " 1", NO,
                "fail " + w + " 1 0 0", NO, "fail " + w + " 9 10 1", NO);
            refused("it is DOWN: NO ahead of NONE", DOWN, "calls " + w, NO);
            refused("it is DOWN: BAD ahead of NO", DOWN, "blast " + w + " 0", BAD, "blast " + w + " 10", BAD, "rounds " + w + " 0", BAD,
                "rounds " + w + " 10", BAD, "fail " + w + " 0 0 0", BAD, "fail " + w + " 1 11 0", BAD, "fail " + w + " 1 0 2", BAD,
                "save " + w + " " + w, BAD, "save " + w + " 3", BAD, "save -1 " + w, BAD);
        }
        refused("both are DOWN", DOWN, "save 0 1", NO, "save 2 0", NO);
        refused("none stands", DOWN, "key 0", NONE, "key 1", NONE, "order 0", NONE, "order 9", NONE);
        refused("none stands: BAD ahead of NONE", DOWN, "key 2", BAD, "key -1", BAD, "order 10", BAD, "order -2", BAD);
        refused("the prop of one that is DOWN is so", DOWN, "prop 0 1 3", NO, "prop 1 0 0", NO);
        refused("a fault behind what was laid", DOWN, "lay", NO);
    }

    private static void mixed() {
        refused("1 is DOWN", MIXED, "round 1", NO, "blast 1 9", NO, "calls 1", NO, "rounds 1 9", NO, "fail 1 1 5 0", NO);
        refused("one of the two is DOWN", MIXED, "save 0 1", NO, "save 1 0", NO);
        refused("one of the two is DOWN, the other none: BAD", MIXED, "save 4 1", BAD, "save 1 4", BAD, "save 1 1", BAD);
        refused("felled ahead", MIXED, "note 1 0 0", NO, "note 1 0 1", NO);
        refused("felled ahead: BAD ahead of NO", MIXED, "note 0 0 0", BAD, "note 1 8 0", BAD, "note 1 0 2", BAD);
        refused("a text of no person", MIXED, "lay", NO);
        refused("it is so", MIXED, "prop 1 0 3", NO, "prop 0 2 6", NO, "prop 0 1 0", NO);
        refused("alike, and so it is: BAD ahead of NO", MIXED, "prop 0 0 0", BAD, "prop 1 1 0", BAD);
        refused("too thick for 9", MIXED, "calls 3", NONE, "rounds 3 6", NONE, "order -1", NONE, "order 0", NONE);
        refused("no wall is so thick", MIXED, "thick 1", NONE);
    }

    // ---- all calls about their bounds, with the model's answers

    private static void byModel() {
        for (String[] scene : new String[][] {FIRST, ONE, FILLED, DOWN, MIXED}) {
            Seen ahead = Seen.of(scene);
            for (String call : callsAboutBounds()) {
                int got = Script.call(Script.after(scene), call);
                Due.is("by the model: " + call, got, Script.call(Script.play(new Model(), scene), call));
                boolean asks = QUESTIONS.contains(call.split(" ")[0]);
                if (got < 0 || asks) Seen.alike("nothing changes by " + call, ahead, Seen.of(Script.and(scene, call)));
            }
        }
    }

    private static List<String> callsAboutBounds() {
        List<String> all = new ArrayList<>(List.of("wipe", "fault", "lay", "undo", "forget", "keep", "back"));
        int[] walls = {-1, 0, 1, 2, 3, 4, 5}, some = {-1, 0, 1, 5}, trumpets = {0, 1, 9, 10}, two = {-1, 0, 1, 2};
        each(all, "write", new int[] {31, 32, 126, 127});
        each(all, "wall", walls, new int[] {-1, 0, 1, 2, 3, 4, 5, 6, 7, 8});
        each(all, "holds", walls, walls);
        each(all, "round", walls);
        each(all, "blast", walls, trumpets);
        each(all, "pass", new int[] {0, 1, 24, 25});
        each(all, "prop", some, some, new int[] {-1, 0, 1, 3, 40, 41});
        each(all, "use", new int[] {0, 1, 4, 5, 10, 11, 60, 61});
        each(all, "calls", walls);
        each(all, "rounds", walls, trumpets);
        each(all, "key", two);
        each(all, "order", new int[] {-2, -1, 0, 1, 2, 3, 4, 5, 6, 7, 8, 9, 10});
        each(all, "save", walls, walls);
        each(all, "built", two);
        each(all, "note", trumpets, new int[] {-1, 0, 7, 8}, two);
        each(all, "thick", two);
        each(all, "fail", some, trumpets, new int[] {-1, 0, 5, 10, 11}, two);
        each(all, "year", new int[] {-1, 0, 9999, 10000}, new int[] {0, 1, 60, 61}, new int[] {-1, 0, 1, 2, 3});
        each(all, "count", new int[] {-1, 0, 1, 2, 3, 4, 5, 6, 7, 8, 9, 10});
        return all;
    }

    private static void each(List<String> all, String ahead, int[]... numbers) {
        if (numbers.length == 0) {
            all.add(ahead);
            return;
        }
        for (int number : numbers[0]) each(all, ahead + " " + number, Arrays.copyOfRange(numbers, 1, numbers.length));
    }
}
