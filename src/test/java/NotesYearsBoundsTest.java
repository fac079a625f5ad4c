/** The bounds of part 4 (NOTED, THICK, FAIL, YEAR, KEPT) and of promises 20 to 27. */
public final class NotesYearsBoundsTest {
    private static final int BAD = -1, NO = -2, FULL = -3, NONE = -4;
    private static final int LEAST = Integer.MIN_VALUE, MOST = Integer.MAX_VALUE;

    public static void main(String[] args) {
        noted6AtMost();
        notedOf1To9Rounded0To7();
        nothingIsNotedBehindWhatFelled();
        notedFullAheadOfNo();
        forgetTellsHowMany();
        thickOf1To60();
        thickByWhatDidNot();
        thick1AtLeastBetween();
        thickByWhatDid();
        thickNone();
        notedIsApartFromTheTown();
        failOf0To10OfTen();
        failOfNoneItDoesNot();
        failInLowestTerms();
        failOf1To9();
        failAsRoundedNow();
        yearBy0To9999();
        yearOf1To60Days();
        yearRoundsBy0To3();
        yearBlastsOf1To9();
        yearIfItCanBe();
        yearDaysGoByBehindEach();
        yearFromNowOn();
        kept2AtMost();
        backToTheLastOne();
        backNothingCanBeUndone();
        backNotesAndTextStay();
        countOf0To9();
        countAtLeastAndAtMost();
        Due.end();
    }

    private static void due(String call, int got, int want) {
        Due.is(call, got, want);
    }

    private static WallTrumpets rounded(WallTrumpets x, int w, int times) {
        for (int i = 0; i < times; i++) x.round(w);
        return x;
    }

    // "NOTED (6 at most)"; promise 20: "NOTED: how many. BAD; FULL; .."
    private static void noted6AtMost() {
        WallTrumpets x = new WallTrumpets();
        due("none", x.count(6), 0);
        for (int i = 1; i <= 6; i++) due("noted", x.note(1, 0, 0), i);
        for (int i = 0; i < 2; i++) due("7", x.note(1, 0, 0), FULL);
        due("6", x.count(6), 6);
        due("the sixth counts: 1 more than its 6", x.thick(1), 7);
        due("6 were", x.forget(), 6);
        due("room again", x.note(1, 0, 0), 1);
        due("the ones that were count no more", x.thick(1), 2);
    }

    // "a BLAST of n TRUMPETS, its PERSON ROUNDED r (0 to 7) times, felled it (1), or did not (0)"
    private static void notedOf1To9Rounded0To7() {
        for (int n = -2; n <= 12; n++) due("n " + n, new WallTrumpets().note(n, 0, 0), n >= 1 && n <= 9 ? 1 : BAD);
        for (int r = -2; r <= 10; r++) due("r " + r, new WallTrumpets().note(1, r, 0), r >= 0 && r <= 7 ? 1 : BAD);
        for (int f = -2; f <= 4; f++) due("felled " + f, new WallTrumpets().note(1, 0, f), f == 0 || f == 1 ? 1 : BAD);
        for (int far : new int[] {LEAST, MOST}) {
            due("n " + far, new WallTrumpets().note(far, 0, 0), BAD);
            due("r " + far, new WallTrumpets().note(1, far, 0), BAD);
            due("felled " + far, new WallTrumpets().note(1, 0, far), BAD);
        }
    }

    // "what did ends it: what is NOTED behind must not be"; promise 20: "NO: it is felled ahead"
    private static void nothingIsNotedBehindWhatFelled() {
        for (int ahead = 0; ahead <= 4; ahead++) {
            WallTrumpets x = new WallTrumpets();
            for (int i = 0; i < ahead; i++) x.note(1, 0, 0);
            due("felled", x.note(9, 7, 1), ahead + 1);
            int many = x.thick(0);
            due("behind it", x.note(1, 0, 0), NO);
            due("behind it", x.note(1, 0, 1), NO);
            due("behind it, no such number", x.note(0, 0, 1), BAD);
            due("noted", x.count(6), ahead + 1);
            due("nothing changes", x.thick(0), many);
            due("were", x.forget(), ahead + 1);
            due("not felled ahead any more", x.note(1, 0, 0), 1);
        }
    }

    // "(but NOTED: FULL ahead of NO)"
    private static void notedFullAheadOfNo() {
        WallTrumpets x = new WallTrumpets();
        for (int i = 1; i <= 5; i++) x.note(1, 0, 0);
        due("the sixth felled it", x.note(1, 0, 1), 6);
        due("FULL ahead of NO", x.note(1, 0, 0), FULL);
        due("FULL ahead of NO", x.note(1, 0, 1), FULL);
        due("BAD ahead of both", x.note(10, 0, 1), BAD);
    }

    // Promise 21: "Nothing is NOTED: how many were."
    private static void forgetTellsHowMany() {
        for (int many = 0; many <= 6; many++) {
            WallTrumpets x = Script.after(Script.times(many, "note 1 0 0"));
            due("were", x.forget(), many);
            due("none", x.count(6), 0);
            due("none", x.forget(), 0);
            due("all could be", x.thick(0), 60);
        }
        Seen.alike("only what is noted", Seen.of("round 0", "keep", "note 1 0 1", "forget"), Seen.of("round 0", "keep"));
    }

    private static void thickIs(String name, int many, int least, String... notes) {
        WallTrumpets x = Script.after(notes);
        due("noted: " + name, x.count(6), notes.length);
        due("thick, " + name + ": how many", x.thick(0), many);
        due("thick, " + name + ": the least", x.thick(1), least);
        due("thick, " + name + ": what 2", x.thick(2), BAD);
        due("thick, " + name + ": what -1", x.thick(-1), BAD);
    }

    // "T (1 to 60), when LAID, by which all that is NOTED could be: how many; the least"
    private static void thickOf1To60() {
        thickIs("nothing noted", 60, 1);
        thickIs("60 alone", 1, 60, "note 3 0 0", "note 7 7 0");
        thickIs("61 is none", 0, NONE, "note 4 0 0", "note 7 7 0");
        thickIs("1 alone", 1, 1, "note 1 0 1");
        thickIs("all of 1 to 60", 60, 1, "note 9 7 1");
        thickIs("60 at most", 60, 1, "note 8 7 1");
        thickIs("56 at most", 56, 1, "note 8 6 1");
        thickIs("more than 56", 4, 57, "note 8 6 0");
    }

    // "(what did not made it THICK by n less"
    private static void thickByWhatDidNot() {
        for (int n = 1; n <= 9; n++) {
            for (int r = 0; r <= 7; r++) {
                int force = n * (r + 1);
                int many = Math.max(0, 60 - force);
                thickIs("did not by " + force, many, many > 0 ? force + 1 : NONE, "note " + n + " " + r + " 0");
            }
        }
        thickIs("3 and 3", 54, 7, "note 3 0 0", "note 3 0 0");
        thickIs("six by 9", 6, 55, Script.times(6, "note 9 0 0"));
        thickIs("3 less, then by 9 at most", 9, 4, "note 3 0 0", "note 9 0 1");
    }

    // "1 at least)": what did not always leaves 1 or more, and 1 falls by any
    private static void thick1AtLeastBetween() {
        thickIs("2, then 1", 1, 2, "note 1 0 0", "note 1 0 1");
        thickIs("10, then 1", 1, 10, "note 9 0 0", "note 1 0 1");
        thickIs("1 does not stand", 59, 2, "note 1 0 0");
    }

    // "what did ends it"
    private static void thickByWhatDid() {
        for (int n = 1; n <= 9; n++) {
            for (int r = 0; r <= 7; r++) thickIs("did", Math.min(60, n * (r + 1)), 1, "note " + n + " " + r + " 1");
        }
        thickIs("7 to 43", 37, 7, "note 3 1 0", "note 5 7 1");
    }

    // "none"; promise 22: "the least (1; NONE). BAD."
    private static void thickNone() {
        thickIs("more than 60", 0, NONE, "note 9 7 0");
        thickIs("more than 16, 8 at most", 0, NONE, "note 2 7 0", "note 1 7 1");
        WallTrumpets x = new WallTrumpets();
        for (int what : new int[] {LEAST, -1, 2, MOST}) due("thick " + what, x.thick(what), BAD);
    }

    // What is NOTED is of a wall that need not be in the town, and is no act.
    private static void notedIsApartFromTheTown() {
        WallTrumpets x = Script.after("note 3 1 0", "note 5 7 1");
        due("no act", x.undo(), NO);
        due("thick of the town", x.wall(0, 3), 12);
        x = Script.after("round 0", "note 3 1 0", "blast 0 1", "pass 3", "undo", "undo");
        due("acts leave it", x.count(6), 1);
        due("acts leave it", x.thick(1), 7);
    }

    private static void failIs(WallTrumpets x, int n, int silent, int above, int below) {
        due("fail of " + n + " by " + silent + ": above", x.fail(0, n, silent, 0), above);
        due("fail of " + n + " by " + silent + ": below", x.fail(0, n, silent, 1), below);
    }

    // "each of n TRUMPETS is silent by x (0 to 10) of ten"
    private static void failOf0To10OfTen() {
        int[] above = {1, 9, 4, 7, 3, 1, 2, 3, 1, 1, 0}, below = {1, 10, 5, 10, 5, 2, 5, 10, 5, 10, 1};
        WallTrumpets x = Due.laid("w0,1,7;");
        for (int silent = 0; silent <= 10; silent++) failIs(x, 1, silent, above[silent], below[silent]);
        for (int silent : new int[] {LEAST, -2, -1, 11, 12, MOST}) failIs(x, 1, silent, BAD, BAD);
        for (int part : new int[] {LEAST, -1, 2, MOST}) due("part " + part, x.fail(0, 1, 5, part), BAD);
        for (int w : new int[] {LEAST, -1, 1, MOST}) due("wall " + w, x.fail(w, 1, 5, 0), BAD);
    }

    // "(of none: it does not)"
    private static void failOfNoneItDoesNot() {
        for (int n = 1; n <= 9; n++) {
            failIs(Due.laid("w0,1,0;"), n, 10, 0, 1);
            failIs(rounded(Due.laid("w0,1,0;"), 0, 7), n, 10, 0, 1);
            failIs(Due.laid("w0,1,0;"), n, 0, 1, 1);
        }
    }

    // "in lowest terms"
    private static void failInLowestTerms() {
        WallTrumpets x = Due.laid("w0,1,0;");
        failIs(x, 2, 5, 3, 4);
        failIs(x, 9, 5, 511, 512);
        failIs(x, 9, 1, 999999999, 1000000000);
        failIs(x, 9, 9, 612579511, 1000000000);
        failIs(x, 2, 2, 24, 25);
        failIs(x, 3, 4, 117, 125);
        x = Due.laid("w0,9,0;");
        failIs(x, 9, 5, 1, 512);
        failIs(x, 9, 9, 1, 1000000000);
        failIs(x, 9, 1, 387420489, 1000000000);
        x = Due.laid("w0,60,0;");
        for (int silent = 0; silent <= 10; silent++) failIs(x, 9, silent, 0, 1);
    }

    // "BAD: a number is none that is told (.. TRUMPETS 1 to 9)"; promise 23: "NO: it is DOWN"
    private static void failOf1To9() {
        WallTrumpets x = Due.laid("w0,1,0;");
        for (int n = -2; n <= 12; n++) due("fail of " + n, x.fail(0, n, 0, 0), n >= 1 && n <= 9 ? 1 : BAD);
        x.blast(0, 1);
        for (int n = -2; n <= 12; n++) due("down: fail of " + n, x.fail(0, n, 0, 0), n >= 1 && n <= 9 ? NO : BAD);
    }

    // "the chance that a WALL that stands FALLS by a BLAST of those that are not": just as many as it takes
    private static void failAsRoundedNow() {
        failIs(Due.laid("w0,3,0;"), 3, 5, 1, 8);
        failIs(Due.laid("w0,3,0;"), 4, 5, 5, 16);
        failIs(Due.laid("w0,4,0;"), 4, 5, 1, 16);
        failIs(Due.laid("w0,4,0;"), 3, 5, 0, 1);
        failIs(rounded(Due.laid("w0,4,7;"), 0, 1), 2, 5, 1, 4);
        failIs(rounded(Due.laid("w0,4,7;"), 0, 1), 3, 5, 1, 2);
        failIs(rounded(Due.laid("w0,4,7;"), 0, 3), 2, 5, 3, 4);
        WallTrumpets x = rounded(Due.laid("w0,4,7;"), 0, 3);
        x.fail(0, 9, 0, 0);
        due("nothing changes", x.wall(0, 3), 4);
        due("nothing changes", x.wall(0, 5), 3);
    }

    private static void yearIs(WallTrumpets x, int z, int n, int down, int stones, int hurt) {
        String name = "year " + z + "," + n;
        due(name + ": down", x.year(z, n, 0), down);
        due(name + ": stones", x.year(z, n, 1), stones);
        due(name + ": hurt", x.year(z, n, 2), hurt);
    }

    // "A YEAR by z (0 to 9999)"
    private static void yearBy0To9999() {
        WallTrumpets x = new WallTrumpets();
        yearIs(x, 0, 60, 3, 39, 1);
        yearIs(x, 1, 60, 1, 4, 1);
        yearIs(x, 9998, 60, 1, 34, 0);
        yearIs(x, 9999, 60, 2, 12, 0);
        for (int z : new int[] {LEAST, -2, -1, 10000, 10001, MOST}) yearIs(x, z, 60, BAD, BAD, BAD);
        for (int what : new int[] {LEAST, -1, 3, MOST}) due("year, what " + what, x.year(0, 1, what), BAD);
    }

    // "of n (1 to 60) DAYS": the 60th draw is the last
    private static void yearOf1To60Days() {
        WallTrumpets x = new WallTrumpets();
        yearIs(x, 9998, 59, 0, 4, 0);
        yearIs(x, 9998, 60, 1, 34, 0);
        yearIs(x, 87, 59, 1, 16, 0);
        yearIs(x, 87, 60, 2, 16, 1);
        for (int n : new int[] {LEAST, -1, 0, 61, 62, MOST}) yearIs(x, 5, n, BAD, BAD, BAD);
        // z 94: the first draw is 56996, a blast of 9.
        yearIs(Due.laid("w0,9,0;"), 94, 1, 1, 9, 0);
    }

    // "if DRAW modulo 8 is 0 to 3, its PERSON is ROUNDED": by z the first draw leaves 0 to 7, the second is a blast
    private static void yearRoundsBy0To3() {
        int[] z = {139, 7, 174, 29}, trumpets = {4, 6, 4, 2};
        for (int i = 0; i < 4; i++) {
            int force = 2 * trumpets[i];
            yearIs(Due.laid("w0," + force + ",1;s1;"), z[i], 2, 1, force + 1, 0);
            yearIs(Due.laid("w0," + (force + 1) + ",1;s1;"), z[i], 2, 0, 1, 0);
            yearIs(Due.laid("w0," + force + ",1;s1;"), z[i], 1, 0, 1, 0);
        }
        int[] idle = {79, 74, 81}, blasts = {6, 4, 5};
        for (int i = 0; i < 3; i++) {
            yearIs(Due.laid("w0," + blasts[i] + ",0;"), idle[i], 2, 1, blasts[i], 0);
            yearIs(Due.laid("w0," + (blasts[i] + 1) + ",0;"), idle[i], 2, 0, 0, 0);
        }
        // A shy one twice.
        yearIs(Due.laid("w2,12,2;"), 139, 2, 1, 12, 0);
        yearIs(Due.laid("w2,13,2;"), 139, 2, 0, 0, 0);
    }

    // "if 4, there is a BLAST of (DRAW by 64, cut) modulo 9 and 1 TRUMPETS"
    private static void yearBlastsOf1To9() {
        // z 78: the first draw is 32876, a blast of 1; z 94: one of 9.
        yearIs(Due.laid("w0,1,0;"), 78, 1, 1, 1, 0);
        yearIs(Due.laid("w0,2,0;"), 78, 1, 0, 0, 0);
        yearIs(Due.laid("w0,9,0;"), 94, 1, 1, 9, 0);
        yearIs(Due.laid("w0,10,0;"), 94, 1, 0, 0, 0);
        // z 140: 5, then 6.
        yearIs(Due.laid("w0,11,0;"), 140, 2, 1, 11, 0);
        yearIs(Due.laid("w0,12,0;"), 140, 2, 0, 0, 0);
    }

    // "each if it can be": 7 at most, and a WALL that is DOWN is let be
    private static void yearIfItCanBe() {
        // z 10: 8 roundings, then, ahead of the 15th day, a blast of 3; z 0: 4, then, ahead of the 7th, one of 4.
        yearIs(Due.laid("w0,24,7;"), 10, 15, 1, 24, 0);
        yearIs(Due.laid("w0,25,7;"), 10, 15, 0, 0, 0);
        yearIs(Due.laid("w2,32,7;"), 0, 7, 1, 32, 0);
        yearIs(Due.laid("w2,33,7;"), 0, 7, 0, 0, 0);
        yearIs(Script.after("text w0,1,0;", "lay", "blast 0 1"), 94, 60, 1, 1, 0);
        yearIs(Script.after("text w0,1,0;", "lay", "blast 0 1"), 10, 60, 1, 1, 0);
        // A double one: a blast of 6 ahead of the second day by z 9999, of 2 ahead of the fourth, once rounded.
        yearIs(Due.laid("w3,6,1;"), 9999, 3, 0, 0, 0);
        yearIs(Due.laid("w3,6,1;"), 9999, 4, 1, 6, 0);
        yearIs(Due.laid("w3,6,0;"), 9999, 3, 0, 6, 0);
        yearIs(Due.laid("w3,6,0;"), 9999, 4, 1, 12, 0);
    }

    // "ahead of the k-th": the DAY goes by behind the draw
    private static void yearDaysGoByBehindEach() {
        yearIs(Due.laid("w1,9,0;"), 94, 1, 1, 9, 0);
        yearIs(Due.laid("w1,10,0;"), 94, 1, 0, 0, 0);
        // z 79: nothing, then a blast of 6: one day has gone by.
        yearIs(Due.laid("w1,5,0;"), 79, 2, 1, 5, 0);
        yearIs(Due.laid("w1,6,0;"), 79, 2, 0, 0, 0);
    }

    // "from now on (nothing changes by it)"
    private static void yearFromNowOn() {
        yearIs(Script.after("text w0,10,0;s7;", "lay", "blast 0 1", "use 2"), 94, 1, 1, 15, 0);
        yearIs(rounded(Due.laid("w0,18,2;"), 0, 1), 94, 1, 1, 0, 0);
        // Who is hurt now is told, too.
        yearIs(Script.after("text w0,1,7;w0,60,0;", "lay", "blast 0 1"), 0, 1, 1, 0, 1);
        String[] scene = {"text w0,12,0;w1,9,0;h0,1,5;s7;", "lay", "round 0", "keep", "blast 0 3", "use 2"};
        Seen ahead = Seen.of(scene);
        for (int what = 0; what < 3; what++) Seen.alike("nothing changes", ahead, Seen.of(Script.and(scene, "year 9999 60 " + what)));
    }

    // "KEPT is all as it stands ..: 2 at most"; promise 25: "KEPT: how many. FULL."
    private static void kept2AtMost() {
        WallTrumpets x = new WallTrumpets();
        due("none", x.count(8), 0);
        due("one", x.keep(), 1);
        due("two", x.keep(), 2);
        for (int i = 0; i < 2; i++) due("three", x.keep(), FULL);
        due("two", x.count(8), 2);
        due("back", x.back(), 1);
        due("room again", x.keep(), 2);
        due("three", x.keep(), FULL);
        // The refused one has not come in the place of another one.
        x = Script.after("round 0", "keep", "round 0", "keep", "round 0", "keep", "round 0", "back");
        due("the second", x.wall(0, 5), 2);
        x.back();
        due("the first", x.wall(0, 5), 1);
    }

    // Promise 26: "As KEPT last (it is KEPT no more then): how many are left; .. NO."
    private static void backToTheLastOne() {
        String[] acts = {"round 0", "pass 3", "prop 0 2 7", "use 2", "blast 2 8", "round 3"};
        String[] more = {"blast 3 1", "pass 24", "prop 0 2 0", "prop 0 1 40", "use 2", "round 0", "blast 0 9", "blast 1 1"};
        Seen.alike("as kept", Seen.standing(acts), Seen.standing(Script.and(Script.and(Script.and(acts, "keep"), more), "back")));
        Seen.alike("as kept ahead of that", Seen.standing(acts),
            Seen.standing(Script.and(Script.and(Script.and(acts, "keep", "round 3", "keep"), more), "back", "round 1", "back")));
        Seen.alike("with nothing between", Seen.standing(acts), Seen.standing(Script.and(acts, "keep", "back")));
        WallTrumpets x = new WallTrumpets();
        due("nothing kept", x.back(), NO);
        x.keep();
        x.keep();
        due("one is left", x.back(), 1);
        due("none is left", x.back(), 0);
        due("nothing kept", x.back(), NO);
        due("nothing kept", x.count(8), 0);
        // Undone is what was done behind keep(), too; what is kept stays as it was.
        x = Script.after("round 0", "keep", "undo", "undo", "back");
        due("as kept", x.wall(0, 5), 1);
    }

    // "(.. by back(), behind which nothing can be UNDONE)"
    private static void backNothingCanBeUndone() {
        WallTrumpets x = Script.after(Script.and(Script.and(Script.times(8, "pass 1"), "keep"), "pass 1", "back"));
        due("nothing", x.count(7), 0);
        due("nothing", x.undo(), NO);
        due("8 days", x.count(1), 8);
        x.pass(1);
        due("what comes behind can be", x.count(7), 1);
        due("what comes behind can be", x.undo(), 0);
        due("8 days", x.count(1), 8);
        due("no more", x.undo(), NO);
        x = Script.after(Script.and(Script.times(9, "pass 1"), "keep"));
        due("keep() leaves what can be undone", x.count(7), 8);
        due("keep() leaves what can be undone", x.undo(), 7);
    }

    // "but what is NOTED and THE TEXT (these stay by back()"
    private static void backNotesAndTextStay() {
        WallTrumpets x = Script.after("note 1 0 0", "text w0,1,0;", "keep", "note 2 0 0", "note 3 0 0", "text w0,2,0;", "back");
        due("noted", x.count(6), 3);
        due("noted", x.thick(1), 7);
        due("text", x.count(9), 14);
        due("text", x.lay(), 2);
        x = Script.after("note 1 0 0", "text w0,1,0;", "keep", "forget", "wipe", "back");
        due("forgotten stays so", x.count(6), 0);
        due("wiped stays so", x.count(9), 0);
    }

    // Promise 27: "How many: 0 PERSONS, .. 9 letters of THE TEXT. BAD."
    private static void countOf0To9() {
        WallTrumpets x = new WallTrumpets();
        int[] want = {5, 0, 0, 4, 0, 5, 0, 0, 0, 0};
        for (int what = -3; what <= 13; what++) due("count " + what, x.count(what), what >= 0 && what <= 9 ? want[what] : BAD);
        for (int what : new int[] {LEAST, MOST}) due("count " + what, x.count(what), BAD);
    }

    // Each of them with nothing there, and full
    private static void countAtLeastAndAtMost() {
        WallTrumpets x = Script.after("text w0,1,7;", "lay", "wipe");
        int[] least = {1, 0, 0, 0, 0, 0, 0, 0, 0, 0};
        for (int what = 0; what < 10; what++) due("least: count " + what, x.count(what), least[what]);
        x = Due.laid("w3,1,7;w3,1,7;w3,1,7;w3,1,7;w3,1,7;s60;");
        for (int a = 0; a < 5; a++) for (int b = 0; b < 5; b++) x.prop(a, b, 1);
        for (int a = 0; a < 5; a++) for (int b = 0; b < 5; b++) x.prop(a, b, 0);
        due("props set and taken", x.count(5), 0);
        // Who is DOWN holds up nobody, so each of them falls twice by itself, OUTWARD.
        for (int i = 0; i < 2; i++) for (int w = 0; w < 5; w++) due("outward", x.blast(w, 1), 2);
        for (int a = 0; a < 5; a++) for (int b = 0; b < 5; b++) x.prop(a, b, 40);
        x.pass(24);
        x.keep();
        x.keep();
        for (int i = 0; i < 7; i++) x.note(1, 0, 0);
        while (x.count(9) < 200) x.write('s');
        int[] most = {5, 24, 5, 60, 8, 20, 6, 8, 2, 200};
        for (int what = 0; what < 10; what++) due("most: count " + what, x.count(what), most[what]);
    }
}
