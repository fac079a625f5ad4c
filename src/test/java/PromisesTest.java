/** Each promise of the document by answers worked out by hand: ordinary inputs, edges, wrong inputs. */
public final class PromisesTest {
    private static final int BAD = -1, NO = -2, FULL = -3, NONE = -4;
    private static final int LEAST = Integer.MIN_VALUE, MOST = Integer.MAX_VALUE;

    public static void main(String[] args) {
        newObject();
        write();
        wipe();
        fault();
        lay();
        wall();
        holds();
        round();
        blast();
        fallsThatFollow();
        pass();
        prop();
        use();
        undo();
        calls();
        rounds();
        key();
        order();
        save();
        built();
        note();
        forget();
        thick();
        fail();
        year();
        keep();
        back();
        count();
        Due.end();
    }

    private static void due(String call, int got, int want) {
        Due.is(call, got, want);
    }

    private static void rounded(WallTrumpets x, int w, int times) {
        for (int i = 0; i < times; i++) x.round(w);
    }

    private static void newObject() {
        WallTrumpets x = new WallTrumpets();
        int[][] told = {{0, 12, 1}, {1, 20, 0}, {2, 8, 3}, {3, 15, 2}, {0, 30, 4}};
        for (int w = 0; w < 5; w++) {
            for (int what = 0; what < 3; what++) due("1: wall " + w + "," + what, x.wall(w, what), told[w][what]);
            due("1: thick of " + w, x.wall(w, 3), told[w][1]);
            for (int what = 4; what < 8; what++) due("1: wall " + w + "," + what, x.wall(w, what), 0);
        }
        int[][] held = {{0, 1, 9}, {1, 4, 12}, {4, 2, 5}, {3, 4, 10}, {2, 0, 6}};
        for (int[] h : held) due("1: holds", x.holds(h[0], h[1]), h[2]);
        int[] counts = {5, 0, 0, 4, 0, 5, 0, 0, 0, 0};
        for (int what = 0; what < 10; what++) due("1: count " + what, x.count(what), counts[what]);
        due("1: an empty text has no fault", x.fault(), NONE);
        due("1: an empty text can't be laid", x.lay(), NO);
        due("1: it stays laid as at first", x.count(0), 5);
        due("1: objects are apart", new WallTrumpets().count(9), 0);
    }

    private static void write() {
        WallTrumpets x = new WallTrumpets();
        for (int letter : new int[] {31, 127, -1, 0, 128, 65536 + 'w', LEAST, MOST}) due("2: write " + letter, x.write(letter), BAD);
        due("2: nothing came", x.count(9), 0);
        due("2: the least", x.write(32), 1);
        due("2: the most", x.write(126), 2);
        for (int i = 3; i <= 200; i++) due("2: write", x.write('x'), i);
        due("2: full", x.write('x'), FULL);
        due("2: BAD ahead of FULL", x.write(31), BAD);
        due("2: how long", x.count(9), 200);
        // The letters come behind one another: a town told letter by letter.
        x = Due.laid("w1,23,4;");
        due("2: K", x.wall(0, 0), 1);
        due("2: T", x.wall(0, 1), 23);
        due("2: L", x.wall(0, 2), 4);
    }

    private static void wipe() {
        WallTrumpets x = new WallTrumpets();
        due("3: empty", x.wipe(), 0);
        Due.rewrite(x, "w0,1,0;z");
        due("3: as long as it was", x.wipe(), 8);
        due("3: empty then", x.wipe(), 0);
        due("3: no letters", x.count(9), 0);
        due("3: no fault", x.fault(), NONE);
        due("3: the town stays", x.count(0), 5);
        for (int i = 0; i < 200; i++) x.write('x');
        due("3: a full one", x.wipe(), 200);
        due("3: written again", x.write('s'), 1);
    }

    private static void faultIs(String text, int want) {
        due("4: fault of " + text, Due.written(text).fault(), want);
        WallTrumpets x = Due.written(text);
        if (want != NONE) due("5: lay of " + text, x.lay(), NO);
    }

    private static void fault() {
        String two = "w0,1,0;w0,2,0;";
        for (String good : new String[] {"", "s0;", "s60;", "s00;", "s05;", "s5;s7;", "w0,1,0;", "w3,60,7;", "w03,01,07;",
            two + "h0,1,1;", two + "h1,0,40;", two + "h0,1,1;h0,1,2;", two + "h01,00,09;",
            "w0,1,0;w0,1,0;w0,1,0;w0,1,0;w0,1,0;", "s1;w0,1,0;s2;w0,1,0;h1,0,3;"}) faultIs(good, NONE);
        for (String bad : new String[] {"x", "W0,1,0;", " w0,1,0;", ";", "0", ",", "w", "w0", "w0,", "w0,1", "w0,1,", "w0,1,0", "w0,1,0,",
            "w0,1;", "w0;", "w;", "w0,1,0,0;", "w,1,0;", "w0,,0;", "w0,1,;", "w0,1,0 ;", "w 0,1,0;", "w-1,1,0;", "w000,1,0;", "w0,001,0;", "w0,1,000;",
            "w4,1,0;", "w0,0,0;", "w0,61,0;", "w0,1,8;", "w0,1,10;", "w99,1,0;", "w0,99,0;", "w0;1;0;", "w0,1.0;", "s", "s;", "s1", "s1,", "s1,2;", "s61;", "s99;", "s001;", "s-1;",
            "h0,1,1;", "h0,0,1;"}) {
            faultIs(bad, 0);
            faultIs("s9;" + bad, 3);
        }
        for (String bad : new String[] {"h0,0,1;", "h1,1,1;", "h0,2,1;", "h2,0,1;", "h0,1,0;", "h0,1,41;", "h0,1,99;", "h0,1,001;", "h0,1;", "h0,1,1", "h1;", "hh", "w0,1,0;h0,3,1;x"}) {
            faultIs(two + bad, bad.startsWith("w") ? 21 : 14);
        }
        faultIs("w0,1,0;w0,1,0;w0,1,0;w0,1,0;w0,1,0;w0,1,0;", 35);
        faultIs("w0,1,0;h0,1,1;w0,1,0;", 7);
        faultIs("w0,1,0;x;y;", 7);
        faultIs("w0,1,0;\u007e", 7);
        StringBuilder full = new StringBuilder();
        for (int i = 0; i < 66; i++) full.append("s1;");
        faultIs(full + "s1", 198);
        WallTrumpets x = Due.written("s1;q");
        due("4: fault", x.fault(), 3);
        due("4: the text stays", x.count(9), 4);
        due("4: the town stays", x.count(3), 4);
    }

    private static void lay() {
        WallTrumpets x = new WallTrumpets();
        rounded(x, 0, 2);
        x.blast(1, 3);
        x.pass(3);
        x.note(1, 1, 0);
        x.keep();
        Due.rewrite(x, "s5;");
        due("5: no person", x.lay(), NO);
        Due.rewrite(x, "w0,7,1;x");
        due("5: a fault", x.lay(), NO);
        int[] counts = {5, 3, 0, 4, 0, 5, 1, 4, 1, 8};
        for (int what = 0; what < 10; what++) due("5: nothing changes: count " + what, x.count(what), counts[what]);
        due("5: nothing changes: rounded", x.wall(0, 5), 2);
        Due.rewrite(x, "w0,7,1;s9;w2,5,3;h1,0,4;s8;h1,0,6;");
        due("5: lay", x.lay(), 2);
        int[] then = {2, 0, 0, 8, 0, 1, 0, 0, 0, 34};
        for (int what = 0; what < 10; what++) due("5: count " + what, x.count(what), then[what]);
        due("5: nobody is rounded", x.wall(0, 5), 0);
        due("5: as thick as laid", x.wall(1, 3), 5);
        due("5: told once more: the last one", x.holds(1, 0), 6);
        due("5: not the other way", x.holds(0, 1), 0);
        due("5: persons that were are none", x.wall(2, 0), BAD);
        due("5: nothing to undo", x.undo(), NO);
        due("5: nothing kept", x.back(), NO);
        due("5: nothing noted", x.forget(), 0);
        x.blast(0, 7);
        x.blast(1, 5);
        due("5: down", x.count(2), 2);
        due("5: hurt", x.count(4), 1);
        due("5: laid again", x.lay(), 2);
        due("5: stands again", x.count(2), 0);
        due("5: not hurt", x.count(4), 0);
        due("5: stones as told", x.count(3), 8);
        Due.rewrite(x, "w0,7,1;");
        x.lay();
        due("5: no stones told", x.count(3), 0);
        due("5: no props told", x.count(5), 0);
        Due.rewrite(x, "w3,4,0;");
        x.lay();
        x.blast(0, 4);
        x.lay();
        due("5: it did not fall", x.wall(0, 7), 0);
    }

    private static void wall() {
        WallTrumpets x = Due.laid("w3,9,2;w1,5,7;");
        for (int w : new int[] {-1, 2, 5, LEAST, MOST}) due("6: wall " + w, x.wall(w, 0), BAD);
        for (int what : new int[] {-1, 8, LEAST, MOST}) due("6: wall of what " + what, x.wall(0, what), BAD);
        rounded(x, 0, 1);
        due("6: rounded", x.wall(0, 5), 1);
        x.blast(0, 2);
        due("6: thinner", x.wall(0, 3), 7);
        due("6: laid", x.wall(0, 1), 9);
        x.blast(0, 7);
        due("6: fell once", x.wall(0, 7), 1);
        due("6: not down", x.wall(0, 4), 0);
        due("6: half and 1", x.wall(0, 3), 5);
        due("6: the next one is hurt", x.wall(1, 6), 1);
        x.blast(0, 5);
        due("6: down", x.wall(0, 4), 1);
        due("6: thick by 0", x.wall(0, 3), 0);
        due("6: fell once, down too", x.wall(0, 7), 1);
        due("6: hurt twice", x.wall(1, 6), 2);
        x.blast(1, 5);
        due("6: not double", x.wall(1, 7), 0);
        due("6: K stays", x.wall(1, 0), 1);
        due("6: T stays", x.wall(1, 1), 5);
        due("6: L stays", x.wall(1, 2), 7);
    }

    private static void holds() {
        WallTrumpets x = Due.laid("w0,9,2;w1,5,7;w0,5,0;h0,1,40;h2,1,1;");
        due("7: held", x.holds(0, 1), 40);
        due("7: held by another", x.holds(2, 1), 1);
        due("7: not held", x.holds(1, 0), 0);
        for (int w = 0; w < 3; w++) due("7: alike", x.holds(w, w), BAD);
        for (int w : new int[] {-1, 3, 4, LEAST, MOST}) {
            due("7: no such", x.holds(w, 1), BAD);
            due("7: no such", x.holds(1, w), BAD);
        }
        x.blast(2, 5);
        due("7: a wall that is down holds by as much", x.holds(2, 1), 1);
    }

    private static void round() {
        WallTrumpets x = Due.laid("w0,9,2;w1,5,7;w2,5,0;w3,1,0;");
        for (int w : new int[] {-1, 4, LEAST, MOST}) due("8: no such", x.round(w), BAD);
        for (int i = 1; i <= 7; i++) {
            due("8: plain", x.round(0), i);
            due("8: growing", x.round(1), i);
            due("8: double", x.round(3), i);
        }
        due("8: full", x.round(0), FULL);
        int[] shy = {2, 4, 6, 7, FULL};
        for (int want : shy) due("8: shy", x.round(2), want);
        due("8: it stays", x.wall(2, 5), 7);
        x = Due.laid("w3,1,0;w0,1,0;");
        x.blast(0, 1);
        due("8: a double one that fell once stands", x.round(0), 1);
        x.blast(0, 1);
        due("8: down", x.round(0), NO);
        due("8: acts", x.count(7), 3);
    }

    private static void blast() {
        WallTrumpets x = Due.laid("w0,12,2;w2,20,0;w1,9,1;s3;");
        for (int w : new int[] {-1, 3, LEAST, MOST}) due("9: no such", x.blast(w, 1), BAD);
        for (int n : new int[] {-1, 0, 10, LEAST, MOST}) due("9: no such", x.blast(0, n), BAD);
        rounded(x, 0, 2);
        due("9: 9 is less than 12", x.blast(0, 3), 0);
        due("9: thinner", x.wall(0, 3), 9);
        due("9: rounded no more", x.wall(0, 5), 0);
        rounded(x, 0, 2);
        due("9: as much: inward, rounded as often as it leans", x.blast(0, 3), 1);
        due("9: stones as thick as laid", x.count(3), 15);
        due("9: nobody is hurt", x.count(4), 0);
        due("9: rounded no more", x.wall(0, 5), 0);
        due("9: down", x.blast(0, 1), NO);
        due("9: BAD ahead of NO", x.blast(0, 0), BAD);
        due("9: outward: rounded less than it leans", x.blast(2, 9), 2);
        due("9: the last one hurts nobody", x.count(4), 0);
        due("9: no stones", x.count(3), 15);
        x.round(1);
        due("9: shy ones are rounded twice", x.blast(1, 7), 1);
        x = Due.laid("w0,5,1;w0,5,1;w0,9,0;");
        due("9: outward", x.blast(1, 5), 2);
        due("9: of the higher number", x.wall(2, 6), 1);
        due("9: not of the lower", x.wall(0, 6), 0);
        due("9: outward", x.blast(0, 5), 2);
        due("9: hurt, though down", x.wall(1, 6), 1);
        due("9: hurt in all", x.count(4), 2);
        x = Due.laid("w0,2,0;");
        x.blast(0, 1);
        due("9: 1 at least", x.wall(0, 3), 1);
        x = Due.laid("w3,11,1;w0,9,0;h0,1,9;");
        x.blast(0, 4);
        due("9: double, outward", x.blast(0, 7), 2);
        due("9: half, cut, and 1", x.wall(0, 3), 6);
        due("9: what it holds up is as it was", x.wall(1, 3), 9);
        x.round(0);
        due("9: double, again", x.blast(0, 3), 1);
        due("9: both are down", x.count(2), 2);
        due("9: stones of both", x.count(3), 20);
    }

    private static void fallsThatFollow() {
        WallTrumpets x = Due.laid("w0,5,7;w0,6,7;w0,4,7;h0,1,6;h1,2,3;");
        x.round(1);
        due("9: outward", x.blast(0, 5), 2);
        due("9: by 0 it falls", x.wall(1, 4), 1);
        due("9: rounded no more", x.wall(1, 5), 0);
        due("9: inward, whatever it leans", x.count(3), 6);
        due("9: one behind it is thinner", x.wall(2, 3), 1);
        due("9: only who is beside the first", x.count(4), 1);
        x = Due.laid("w0,5,0;w3,6,7;h0,1,40;");
        x.round(1);
        x.blast(0, 5);
        due("9: a double one stands again", x.wall(1, 3), 4);
        due("9: rounded no more", x.wall(1, 5), 0);
        due("9: its stones", x.count(3), 11);
        x = Due.laid("w0,5,0;w0,6,7;w0,7,0;h0,1,6;h1,2,7;h2,0,5;");
        x.blast(0, 5);
        due("9: round in a ring", x.count(2), 3);
        due("9: each once", x.count(3), 18);
        // 0 makes 1 and 3 thin; 1 falls with all that comes of it (3 too, then 2 by 3) ahead of 3's turn.
        x = Due.laid("w0,5,0;w0,3,0;w0,9,0;w3,4,0;h0,1,3;h0,3,4;h1,3,1;h1,2,2;");
        x.blast(0, 5);
        due("9: a double one that fell by 1 already does not fall again by 0", x.wall(3, 4), 0);
        due("9: it is thick by half and 1", x.wall(3, 3), 3);
        due("9: 2 is thinner", x.wall(2, 3), 7);
        due("9: stones", x.count(3), 12);
        // 3 is made thin by 0, but falls behind 1 and all that comes of 1: 2 stands again ahead of it, and falls by 3.
        x = Due.laid("w0,5,0;w0,3,0;w3,4,0;w0,2,0;h0,1,3;h0,3,2;h1,2,4;h3,2,9;");
        x.blast(0, 5);
        due("9: the turn of each", x.count(2), 4);
        due("9: stones of each", x.count(3), 5 + 3 + 4 + 2 + 4);
    }

    private static void pass() {
        WallTrumpets x = Due.laid("w0,9,2;w1,5,7;w2,5,0;w3,5,0;w1,60,0;");
        for (int n : new int[] {-1, 0, 25, LEAST, MOST}) due("10: pass " + n, x.pass(n), BAD);
        due("10: none went by", x.count(1), 0);
        due("10: a day", x.pass(1), 1);
        due("10: in all", x.pass(24), 25);
        int[] thick = {9, 30, 5, 5, 85};
        for (int w = 0; w < 5; w++) due("10: thick " + w, x.wall(w, 3), thick[w]);
        x.pass(13);
        due("10: 98", x.wall(4, 3), 98);
        x.pass(2);
        due("10: 99 at most", x.wall(4, 3), 99);
        due("10: as laid", x.wall(4, 1), 60);
        due("10: one at one time", x.count(7), 4);
        x = Due.laid("w1,5,0;");
        x.blast(0, 5);
        x.pass(3);
        due("10: what is down does not grow", x.wall(0, 3), 0);
        due("10: it is down", x.wall(0, 4), 1);
    }

    private static void prop() {
        WallTrumpets x = Due.laid("w0,9,0;w0,5,7;w0,7,0;h0,1,6;");
        for (int w : new int[] {-1, 3, LEAST, MOST}) {
            due("11: no such", x.prop(w, 0, 1), BAD);
            due("11: no such", x.prop(0, w, 1), BAD);
        }
        due("11: alike", x.prop(1, 1, 1), BAD);
        for (int s : new int[] {-1, 41, LEAST, MOST}) due("11: no such", x.prop(0, 1, s), BAD);
        due("11: it is so", x.prop(0, 1, 6), NO);
        due("11: none is taken", x.prop(1, 0, 0), NO);
        due("11: nothing changed", x.count(7), 0);
        due("11: set", x.prop(1, 0, 40), 0);
        due("11: props", x.count(5), 2);
        due("11: by another", x.prop(0, 1, 4), 6);
        due("11: holds", x.holds(0, 1), 4);
        due("11: taken", x.prop(0, 1, 0), 4);
        due("11: holds not", x.holds(0, 1), 0);
        due("11: props", x.count(5), 1);
        x.prop(0, 2, 3);
        x.blast(0, 9);
        due("11: it fell with it", x.wall(2, 3), 4);
        due("11: by one that is down", x.prop(0, 1, 1), 0);
        due("11: of one that is down", x.prop(1, 0, 1), 40);
        due("11: a prop of one that is down stays", x.holds(0, 2), 3);
        x.blast(1, 5);
        due("11: the one set last is of no use to one that is down", x.count(2), 2);
    }

    private static void use() {
        WallTrumpets x = Due.laid("w0,60,0;w0,9,0;s60;");
        for (int n : new int[] {-1, 0, 61, LEAST, MOST}) due("12: use " + n, x.use(n), BAD);
        due("12: use", x.use(1), 59);
        due("12: too many", x.use(60), NO);
        due("12: all", x.use(59), 0);
        due("12: none is left", x.use(1), NO);
        due("12: stones", x.count(3), 0);
        due("12: acts", x.count(7), 2);
        x.blast(1, 9);
        due("12: those of a wall", x.use(4), 5);
    }

    private static void undo() {
        WallTrumpets x = Due.laid("w1,9,0;w0,9,7;h0,1,2;s9;");
        due("13: nothing", x.undo(), NO);
        x.round(0);
        x.blast(0, 1);
        x.pass(3);
        x.prop(1, 0, 5);
        x.prop(0, 1, 0);
        x.use(4);
        x.blast(0, 9);
        x.blast(0, 9);
        x.blast(1, 9);
        due("13: 8 can be", x.count(7), 8);
        due("13: blast", x.undo(), 7);
        due("13: stands", x.wall(1, 4), 0);
        due("13: blast", x.undo(), 6);
        due("13: thick", x.wall(0, 3), 2);
        due("13: stones", x.count(3), 5);
        due("13: blast that did not fell", x.undo(), 5);
        due("13: thick", x.wall(0, 3), 11);
        due("13: use", x.undo(), 4);
        due("13: stones", x.count(3), 9);
        due("13: prop taken", x.undo(), 3);
        due("13: it holds", x.holds(0, 1), 2);
        due("13: prop set", x.undo(), 2);
        due("13: it holds not", x.holds(1, 0), 0);
        due("13: all days at one time", x.undo(), 1);
        due("13: days", x.count(1), 0);
        due("13: thick", x.wall(0, 3), 8);
        due("13: blast", x.undo(), 0);
        due("13: rounded", x.wall(0, 5), 1);
        due("13: the ninth can't be", x.undo(), NO);
        due("13: rounded still", x.wall(0, 5), 1);
        x.round(0);
        due("13: an undone act is none", x.count(7), 1);
        rounded(x, 0, 5);
        due("13: 7", x.wall(0, 5), 7);
        due("13: full", x.round(0), FULL);
        due("13: what is refused is no act", x.count(7), 6);
        x = Due.laid("w0,2,1;w3,4,0;h0,1,9;");
        x.blast(0, 2);
        x.undo();
        int[] counts = {2, 0, 0, 0, 0, 1};
        for (int what = 0; what < 6; what++) due("13: all that came of it: count " + what, x.count(what), counts[what]);
        due("13: it did not fall", x.wall(1, 7), 0);
        due("13: thick", x.wall(1, 3), 4);
    }

    private static void calls() {
        WallTrumpets x = Due.laid("w0,9,7;w0,10,0;w2,40,0;w0,1,0;");
        for (int w : new int[] {-1, 4, LEAST, MOST}) due("14: no such", x.calls(w), BAD);
        due("14: 9", x.calls(0), 9);
        due("14: none", x.calls(1), NONE);
        due("14: 1", x.calls(3), 1);
        x.round(1);
        due("14: by 2 each", x.calls(1), 5);
        x.round(0);
        due("14: cut up", x.calls(0), 5);
        x.round(2);
        x.round(2);
        due("14: by 5 each", x.calls(2), 8);
        x.blast(3, 1);
        due("14: down", x.calls(3), NO);
        due("14: nothing changes", x.wall(1, 5), 1);
    }

    private static void rounds() {
        WallTrumpets x = Due.laid("w0,9,0;w0,9,3;w2,9,3;w0,60,0;w0,1,7;");
        for (int w : new int[] {-1, 5, LEAST, MOST}) due("15: no such", x.rounds(w, 1), BAD);
        for (int n : new int[] {-1, 0, 10, LEAST, MOST}) due("15: no such", x.rounds(0, n), BAD);
        due("15: 0", x.rounds(0, 9), 0);
        due("15: 1", x.rounds(0, 8), 1);
        due("15: inward only", x.rounds(1, 9), 3);
        due("15: shy", x.rounds(2, 9), 2);
        due("15: none", x.rounds(3, 7), NONE);
        due("15: 7", x.rounds(3, 8), 7);
        due("15: leans by 7", x.rounds(4, 1), 7);
        x.round(2);
        x.round(2);
        x.round(2);
        due("15: shy, 7 at most", x.rounds(2, 1), NONE);
        x.blast(2, 1);
        due("15: shy, thick by 8: 2, 4, 6, 7", x.rounds(2, 1), 4);
        rounded(x, 2, 1);
        due("15: shy", x.rounds(2, 2), 1);
        x.round(4);
        due("15: more", x.rounds(4, 1), 6);
        x.blast(4, 1);
        due("15: down", x.rounds(4, 1), NO);
    }

    private static void key() {
        WallTrumpets x = Due.laid("w0,50,0;w0,9,0;w0,7,0;w0,8,0;h1,2,7;h3,2,7;h3,1,3;");
        for (int what : new int[] {-1, 2, LEAST, MOST}) due("16: no such", x.key(what), BAD);
        due("16: of several the lowest", x.key(0), 1);
        due("16: how many", x.key(1), 1);
        x.prop(3, 0, 40);
        x.prop(2, 0, 10);
        due("16: most", x.key(0), 3);
        due("16: how many", x.key(1), 2);
        x.blast(2, 7);
        due("16: those that are down now are not told", x.key(1), 1);
        due("16: the lowest", x.key(0), 3);
        x = Due.laid("w0,9,0;w3,5,7;w0,9,0;h0,1,5;h1,0,9;h2,1,5;");
        due("16: a double one is not down then", x.key(1), 0);
        due("16: which", x.key(0), 0);
        x.blast(1, 5);
        x.prop(1, 0, 0);
        x.prop(1, 2, 9);
        due("16: double, fell once", x.key(0), 0);
        due("16: 0 by 1 by 2", x.key(1), 2);
        x.blast(0, 9);
        due("16: all are down", x.key(0), NONE);
        due("16: all are down", x.key(1), NONE);
    }

    private static void orderIs(WallTrumpets x, String name, int... want) {
        for (int k = -1; k <= 9; k++) due("17: " + name + " " + k, x.order(k), k + 1 < want.length ? want[k + 1] : NONE);
    }

    private static void order() {
        WallTrumpets x = Due.laid("w0,3,7;");
        for (int k : new int[] {-2, 10, LEAST, MOST}) due("17: no such", x.order(k), BAD);
        orderIs(x, "one wall", 3, 0);
        x.round(0);
        orderIs(x, "one wall, rounded", 2, 0);
        x.blast(0, 2);
        orderIs(x, "all are down", 0);
        orderIs(Due.laid("w0,10,0;w0,1,0;"), "none", NONE);
        orderIs(Due.laid("w0,5,0;w0,5,0;w0,5,0;"), "the lowest ahead", 15, 0, 1, 2);
        orderIs(Due.laid("w0,5,0;w0,5,0;h1,0,2;"), "by what it holds up", 8, 1, 0);
        orderIs(Due.laid("w0,50,0;w0,5,0;h1,0,40;"), "none, the prop being short by one", NONE);
        orderIs(Due.laid("w0,45,0;w0,5,0;h1,0,40;"), "only by a prop", 10, 1, 0);
        x = Due.laid("w3,4,0;");
        orderIs(x, "double", 7, 0, 0);
        rounded(x, 0, 3);
        orderIs(x, "double, again as rounded no more", 4, 0, 0);
        x.blast(0, 1);
        orderIs(x, "double, fell once", 3, 0);
        orderIs(Due.laid("w3,1,0;w3,1,0;w3,1,0;w3,1,0;w3,1,0;"), "ten blasts", 10, 0, 0, 1, 1, 2, 2, 3, 3, 4, 4);
        // 1 falls by 0 for the first time, so that its person, rounded 7 times, is rounded no more.
        x = Due.laid("w0,2,0;w3,8,0;h0,1,8;");
        rounded(x, 1, 7);
        orderIs(x, "0 first is fewest: 2 and 5; 1 first: 1, then 0 by 2, which fells it", 3, 1, 0);
        due("17: nothing changes", x.wall(1, 5), 7);
    }

    private static void save() {
        WallTrumpets x = Due.laid("w0,9,0;w0,5,0;w0,6,0;w0,9,0;h0,1,5;h0,2,6;h2,1,5;");
        for (int w : new int[] {-1, 4, LEAST, MOST}) {
            due("18: no such", x.save(w, 0), BAD);
            due("18: no such", x.save(0, w), BAD);
        }
        due("18: alike", x.save(1, 1), BAD);
        due("18: both must be taken", x.save(1, 0), 5);
        due("18: one is enough", x.save(2, 0), 1);
        due("18: only the other one's", x.save(1, 2), 4);
        due("18: none", x.save(3, 0), 0);
        x.prop(2, 1, 2);
        x.prop(0, 1, 3);
        due("18: of several the lowest", x.save(1, 0), 1);
        x.prop(0, 1, 2);
        due("18: none", x.save(1, 0), 0);
        x = Due.laid("w0,9,0;w3,5,0;h0,1,40;");
        due("18: a double one stands", x.save(1, 0), 0);
        x.blast(1, 5);
        due("18: fell once", x.save(1, 0), 1);
        x = Due.laid("w3,9,0;w0,5,0;h0,1,40;");
        due("18: a double one falls and stands", x.save(1, 0), 0);
        x.blast(0, 9);
        due("18: fell once", x.save(1, 0), 1);
        due("18: nothing changes", x.holds(0, 1), 40);
        x.blast(0, 5);
        due("18: both are down", x.save(1, 0), NO);
        due("18: BAD ahead of NO", x.save(0, 0), BAD);
        x = Due.laid("w0,9,0;w0,5,0;");
        x.blast(0, 9);
        due("18: the other one is down", x.save(1, 0), NO);
        due("18: the first one is down", x.save(0, 1), NO);
    }

    private static void built() {
        int[] ways = {1, 0, 0, 1, 0, 1, 1, 0, 2, 1, 1, 2, 1, 2, 2, 2, 3};
        int[] fewest = {0, NONE, NONE, 1, NONE, 1, 2, NONE, 1, 3, 2, 2, 4, 2, 3, 3, 2};
        for (int n = 0; n < ways.length; n++) {
            WallTrumpets x = Due.laid("w0,9,0;s" + n + ";");
            due("19: ways of " + n, x.built(0), ways[n]);
            due("19: fewest of " + n, x.built(1), fewest[n]);
        }
        WallTrumpets x = new WallTrumpets();
        for (int what : new int[] {-1, 2, LEAST, MOST}) due("19: no such", x.built(what), BAD);
    }

    private static void note() {
        WallTrumpets x = new WallTrumpets();
        for (int n : new int[] {-1, 0, 10, LEAST, MOST}) due("20: n", x.note(n, 0, 0), BAD);
        for (int r : new int[] {-1, 8, LEAST, MOST}) due("20: r", x.note(1, r, 0), BAD);
        for (int f : new int[] {-1, 2, LEAST, MOST}) due("20: felled", x.note(1, 0, f), BAD);
        due("20: noted", x.note(9, 7, 0), 1);
        due("20: felled", x.note(1, 0, 1), 2);
        due("20: felled ahead", x.note(1, 0, 0), NO);
        due("20: felled ahead", x.note(1, 0, 1), NO);
        due("20: BAD ahead of NO", x.note(0, 0, 0), BAD);
        due("20: noted in all", x.count(6), 2);
        x.forget();
        for (int i = 1; i <= 5; i++) due("20: noted", x.note(1, 0, 0), i);
        due("20: the sixth", x.note(1, 0, 1), 6);
        due("20: FULL ahead of NO", x.note(1, 0, 0), FULL);
        due("20: BAD ahead of FULL", x.note(1, 0, 2), BAD);
        due("20: it is no act", x.count(7), 0);
    }

    private static void forget() {
        WallTrumpets x = new WallTrumpets();
        due("21: nothing", x.forget(), 0);
        x.note(1, 0, 0);
        x.note(1, 0, 1);
        due("21: two", x.forget(), 2);
        due("21: nothing then", x.count(6), 0);
        due("21: all could be", x.thick(0), 60);
        due("21: not felled ahead", x.note(1, 0, 0), 1);
    }

    private static void thick() {
        WallTrumpets x = new WallTrumpets();
        for (int what : new int[] {-1, 2, LEAST, MOST}) due("22: no such", x.thick(what), BAD);
        due("22: all", x.thick(0), 60);
        due("22: least", x.thick(1), 1);
        x.note(3, 2, 0);
        due("22: more than 9", x.thick(0), 51);
        due("22: more than 9", x.thick(1), 10);
        x.note(2, 4, 1);
        due("22: 13 at most", x.thick(0), 4);
        due("22: 10", x.thick(1), 10);
        x.forget();
        x.note(9, 6, 0);
        due("22: none is 63", x.thick(0), 0);
        due("22: none", x.thick(1), NONE);
        x.forget();
        x.note(1, 0, 1);
        due("22: 1", x.thick(0), 1);
        x.forget();
        x.note(2, 7, 0);
        x.note(1, 7, 1);
        due("22: more than 16, then 8 at most", x.thick(0), 0);
        due("22: none", x.thick(1), NONE);
    }

    private static void failIs(WallTrumpets x, int w, int n, int silent, int above, int below) {
        due("23: above of " + w + "," + n + "," + silent, x.fail(w, n, silent, 0), above);
        due("23: below of " + w + "," + n + "," + silent, x.fail(w, n, silent, 1), below);
    }

    private static void fail() {
        WallTrumpets x = Due.laid("w0,2,0;w0,1,7;w0,60,0;");
        for (int w : new int[] {-1, 3, LEAST, MOST}) due("23: w", x.fail(w, 1, 0, 0), BAD);
        for (int n : new int[] {-1, 0, 10, LEAST, MOST}) due("23: n", x.fail(0, n, 0, 0), BAD);
        for (int s : new int[] {-1, 11, LEAST, MOST}) due("23: x", x.fail(0, 1, s, 0), BAD);
        for (int part : new int[] {-1, 2, LEAST, MOST}) due("23: part", x.fail(0, 1, 0, part), BAD);
        failIs(x, 0, 1, 0, 0, 1);
        failIs(x, 0, 2, 0, 1, 1);
        failIs(x, 0, 2, 10, 0, 1);
        failIs(x, 0, 2, 5, 1, 4);
        failIs(x, 0, 3, 5, 1, 2);
        failIs(x, 0, 3, 1, 243, 250);
        failIs(x, 1, 1, 4, 3, 5);
        failIs(x, 1, 9, 1, 999999999, 1000000000);
        failIs(x, 2, 9, 3, 0, 1);
        x.round(0);
        failIs(x, 0, 2, 5, 3, 4);
        due("23: nothing changes", x.wall(0, 5), 1);
        x.blast(0, 1);
        due("23: down", x.fail(0, 1, 0, 0), NO);
        due("23: BAD ahead of NO", x.fail(0, 1, 0, 2), BAD);
    }

    private static void year() {
        WallTrumpets x = Due.laid("w0,9,0;s7;");
        for (int z : new int[] {-1, 10000, LEAST, MOST}) due("24: z", x.year(z, 1, 0), BAD);
        for (int n : new int[] {-1, 0, 61, LEAST, MOST}) due("24: n", x.year(0, n, 0), BAD);
        for (int what : new int[] {-1, 3, LEAST, MOST}) due("24: what", x.year(0, 1, what), BAD);
        // z 0: k 0 draws 1: rounded. k 1: 6152 squared modulo 65521 is 41487, by 8 leaves 7: nothing.
        due("24: stones", x.year(0, 2, 1), 7);
        due("24: down", x.year(0, 2, 0), 0);
        due("24: hurt", x.year(0, 2, 2), 0);
        due("24: nothing changes", x.count(1), 0);
        due("24: nothing changes", x.wall(0, 5), 0);
        due("24: nothing to undo", x.count(7), 0);
        x.year(9999, 60, 0);
        due("24: nothing changes", x.wall(0, 3), 9);
        // z 15 of two walls: k 0 draws 35404, 5 trumpets at 1; k 1 55097, 1 is rounded; k 2 2116, 7 trumpets at 0.
        x = Due.laid("w0,7,1;w1,6,0;s1;");
        due("24: 5 are less than 6", x.year(15, 1, 0), 0);
        due("24: 0 not yet", x.year(15, 2, 2), 0);
        due("24: 0 is down", x.year(15, 3, 0), 1);
        due("24: outward", x.year(15, 3, 1), 1);
        due("24: hurt", x.year(15, 3, 2), 1);
        x = Due.laid("w0,9,0;w0,5,0;s1;");
        due("24: 1 is down", x.year(15, 1, 0), 1);
        due("24: inward", x.year(15, 1, 1), 6);
        due("24: what is down is let be", x.year(15, 3, 0), 1);
        due("24: two days ahead of the third draw", Due.laid("w1,5,0;w0,9,0;").year(15, 3, 0), 1);
        due("24: two days ahead of the third draw", Due.laid("w1,6,0;w0,9,0;").year(15, 3, 0), 0);
    }

    private static void keep() {
        WallTrumpets x = new WallTrumpets();
        x.round(0);
        due("25: one", x.keep(), 1);
        due("25: it is no act", x.count(7), 1);
        due("25: two", x.keep(), 2);
        due("25: full", x.keep(), FULL);
        due("25: kept", x.count(8), 2);
        due("25: what was can be undone still", x.undo(), 0);
    }

    private static void back() {
        WallTrumpets x = Due.laid("w1,9,0;w0,5,7;w3,9,0;h1,0,3;s9;");
        due("26: nothing", x.back(), NO);
        x.round(0);
        x.keep();
        x.blast(1, 5);
        x.pass(2);
        x.prop(2, 0, 4);
        x.blast(2, 9);
        x.use(3);
        x.keep();
        x.note(1, 1, 0);
        x.write('z');
        int letters = x.count(9);
        x.blast(2, 9);
        due("26: one is left", x.back(), 1);
        due("26: nothing is undone then", x.undo(), NO);
        int[] then = {3, 2, 1, 15, 1, 2, 1, 0, 1, letters};
        for (int what = 0; what < 10; what++) due("26: count " + what, x.count(what), then[what]);
        due("26: it fell once", x.wall(2, 7), 1);
        due("26: thick", x.wall(2, 3), 5);
        due("26: none is left", x.back(), 0);
        int[] first = {3, 0, 0, 9, 0, 1, 1, 0, 0, letters};
        for (int what = 0; what < 10; what++) due("26: count " + what, x.count(what), first[what]);
        due("26: rounded", x.wall(0, 5), 1);
        due("26: thick", x.wall(0, 3), 9);
        due("26: it did not fall", x.wall(2, 7), 0);
        due("26: nothing", x.back(), NO);
        x.round(0);
        due("26: kept apart from what stands", x.keep(), 1);
        x.round(0);
        x.back();
        due("26: rounded", x.wall(0, 5), 2);
    }

    private static void count() {
        WallTrumpets x = Due.laid("w0,5,1;w0,5,0;h0,1,1;h1,0,40;s6;");
        for (int what : new int[] {-1, 10, LEAST, MOST}) due("27: no such", x.count(what), BAD);
        x.pass(5);
        x.blast(0, 5);
        x.note(1, 1, 1);
        x.keep();
        x.prop(1, 0, 0);
        int[] want = {2, 5, 1, 6, 1, 1, 1, 3, 1, 32};
        for (int what = 0; what < 10; what++) due("27: count " + what, x.count(what), want[what]);
        for (int i = 0; i < 9; i++) x.use(i < 6 ? 1 : 60);
        due("27: 8 at most", x.count(7), 8);
        due("27: stones", x.count(3), 0);
    }
}
