/** The bounds of part 2 (ROUNDING, BLAST, FALLS, DAYS, PROPS, STONES, UNDONE) and of promises 8 to 13. */
public final class ActsBoundsTest {
    private static final int BAD = -1, NO = -2, FULL = -3;

    public static void main(String[] args) {
        atFirstNobodyIsRoundedOrHurt();
        rounded7AtMost();
        shyOnesTwice();
        roundedIfItStands();
        blastOf1To9();
        forceAsMuchAsThick();
        inwardAsOftenAsItLeans();
        thinnerByN1AtLeast();
        roundedNoMoreThen();
        stonesAsThickAsLaid();
        whoIsBesideIfThereIsOne();
        doubleStandsAgainByHalfAndOne();
        doubleForTheFirstTimeOnly();
        wallsThatStandAreThinner();
        thickBy0OrLess();
        inwardWhateverItLeans();
        allAreThinnerAheadOfAnyFall();
        zeroFirst();
        allThatComesOfItAheadOfTheNext();
        aDoubleOneLikewise();
        growingOnes99AtMost();
        days1To24();
        propWhereOneIsDown();
        propBy1To40OrTaken();
        use1To60();
        theLast8CanBeUndone();
        eachActIsUndoneWhole();
        allDaysAtOneTimeAreOne();
        Due.end();
    }

    private static void due(String call, int got, int want) {
        Due.is(call, got, want);
    }

    private static WallTrumpets rounded(WallTrumpets x, int w, int times) {
        for (int i = 0; i < times; i++) x.round(w);
        return x;
    }

    // "At first nobody is ROUNDED, HURT."
    private static void atFirstNobodyIsRoundedOrHurt() {
        for (WallTrumpets x : new WallTrumpets[] {new WallTrumpets(), Due.laid("w0,1,7;".repeat(5)),
            Script.after("round 0", "blast 2 8", "text w0,1,7;w0,1,7;w0,1,7;w0,1,7;w0,1,7;", "lay")}) {
            for (int w = 0; w < 5; w++) {
                due("rounded", x.wall(w, 5), 0);
                due("hurt", x.wall(w, 6), 0);
                due("down", x.wall(w, 4), 0);
            }
            due("hurt in all", x.count(4), 0);
        }
    }

    // "it is ROUNDED once more (7 at most)"; promise 8: "FULL: it is 7"
    private static void rounded7AtMost() {
        for (int kind : new int[] {0, 1, 3}) {
            WallTrumpets x = Due.laid("w" + kind + ",60,0;w0,60,0;");
            for (int i = 1; i <= 7; i++) due("rounded", x.round(0), i);
            for (int i = 0; i < 2; i++) due("8", x.round(0), FULL);
            due("7 at most", x.wall(0, 5), 7);
            due("acts", x.count(7), 7);
            due("another one", x.wall(1, 5), 0);
            due("another one", x.round(1), 1);
            x.blast(0, 1);
            due("from 0 on behind a blast", x.round(0), 1);
        }
    }

    // "a SHY one twice": 6 and 2 are 7
    private static void shyOnesTwice() {
        WallTrumpets x = Due.laid("w2,60,0;");
        for (int want : new int[] {2, 4, 6, 7, FULL, FULL}) due("shy", x.round(0), want);
        due("7 at most", x.wall(0, 5), 7);
        due("a rounding is one act", x.count(7), 4);
        due("undone whole", x.undo(), 3);
        due("undone whole", x.wall(0, 5), 6);
    }

    // "A ROUNDING of a PERSON whose WALL stands"
    private static void roundedIfItStands() {
        WallTrumpets x = Due.laid("w0,1,0;w3,1,0;w0,60,0;h0,1,1;");
        x.blast(0, 1);
        due("down", x.round(0), NO);
        due("a double one that fell once stands", x.round(1), 1);
        x.blast(1, 9);
        due("a double one that fell twice", x.round(1), NO);
        due("no more rounded", x.wall(1, 5), 0);
        due("one that stands", x.round(2), 1);
    }

    // "A BLAST of n (1 to 9) TRUMPETS at a WALL that stands"
    private static void blastOf1To9() {
        for (int n = -2; n <= 12; n++) {
            WallTrumpets x = Due.laid("w0,60,0;");
            boolean is = n >= 1 && n <= 9;
            due("blast of " + n, x.blast(0, n), is ? 0 : BAD);
            due("thick", x.wall(0, 3), is ? 60 - n : 60);
            due("acts", x.count(7), is ? 1 : 0);
        }
        WallTrumpets x = Due.laid("w0,1,0;");
        due("stands", x.blast(0, 1), 1);
        for (int n = 1; n <= 9; n++) due("down", x.blast(0, n), NO);
        due("down, and no such number", x.blast(0, 10), BAD);
    }

    // "has n times (how often the PERSON is ROUNDED, and 1) FORCE. Is that as much as the WALL is THICK, or more, it FALLS"
    private static void forceAsMuchAsThick() {
        for (int n = 1; n <= 9; n++) {
            for (int r = 0; r <= 7; r++) {
                int force = n * (r + 1);
                for (int t = Math.max(1, force - 1); t <= Math.min(60, force + 1); t++) {
                    WallTrumpets x = rounded(Due.laid("w0," + t + ",0;"), 0, r);
                    due("force " + force + " at " + t, x.blast(0, n), force >= t ? 1 : 0);
                    due("down", x.wall(0, 4), force >= t ? 1 : 0);
                }
            }
        }
        // More than 60: 72 at most.
        WallTrumpets x = rounded(Script.after("text w1,60,0;", "lay", "pass 12"), 0, 7);
        due("72 at 72", x.blast(0, 9), 1);
        x = rounded(Script.after("text w1,60,0;", "lay", "pass 13"), 0, 7);
        due("72 at 73", x.blast(0, 9), 0);
    }

    // "INWARD, if the PERSON is ROUNDED as often as it LEANS, or more, else OUTWARD"
    private static void inwardAsOftenAsItLeans() {
        for (int lean = 0; lean <= 7; lean++) {
            for (int r = 0; r <= 7; r++) {
                WallTrumpets x = rounded(Due.laid("w0,1," + lean + ";w0,60,0;"), 0, r);
                boolean inward = r >= lean;
                due("rounded " + r + ", leans " + lean, x.blast(0, 1), inward ? 1 : 2);
                due("stones", x.count(3), inward ? 1 : 0);
                due("hurt", x.count(4), inward ? 0 : 1);
            }
        }
    }

    // "else it is THICK by n less (1 at least)"
    private static void thinnerByN1AtLeast() {
        for (int n = 1; n <= 9; n++) {
            for (int t = n + 1; t <= n + 3; t++) {
                WallTrumpets x = Due.laid("w0," + t + ",0;");
                due("it stands", x.blast(0, n), 0);
                due("thick", x.wall(0, 3), t - n);
                due("as laid", x.wall(0, 1), t);
            }
        }
        WallTrumpets x = Due.laid("w0,3,0;");
        due("3", x.blast(0, 1), 0);
        due("2", x.blast(0, 1), 0);
        due("1", x.wall(0, 3), 1);
        due("it falls", x.blast(0, 1), 1);
        due("0", x.wall(0, 3), 0);
    }

    // "The PERSON is ROUNDED no more then (0 times), nor is that of any WALL that FALLS."
    private static void roundedNoMoreThen() {
        WallTrumpets x = rounded(Due.laid("w0,60,0;w0,60,0;"), 0, 7);
        x.round(1);
        x.blast(0, 1);
        due("it stands", x.wall(0, 5), 0);
        due("the other one", x.wall(1, 5), 1);
        x = Due.laid("w0,1,0;w0,1,0;w3,4,0;w0,9,0;h0,1,1;h0,2,4;h0,3,8;");
        for (int w = 0; w < 4; w++) rounded(x, w, 3);
        x.blast(0, 1);
        due("it falls", x.wall(0, 5), 0);
        due("it falls with it", x.wall(1, 5), 0);
        due("a double one that stands again", x.wall(2, 5), 0);
        due("one that is thinner only", x.wall(3, 5), 3);
        due("and stands", x.wall(3, 3), 1);
    }

    // "INWARD there are as many STONES more as it was THICK when LAID"
    private static void stonesAsThickAsLaid() {
        for (int t : new int[] {1, 2, 9}) {
            WallTrumpets x = Due.laid("w0," + t + ",0;s60;");
            x.blast(0, 9);
            due("stones", x.count(3), 60 + t);
        }
        WallTrumpets x = Script.after("text w0,20,0;s5;", "lay", "blast 0 9", "blast 0 8", "blast 0 3");
        due("thinner by then", x.count(3), 25);
        x = rounded(Script.after("text w1,20,0;", "lay", "pass 10"), 0, 4);
        due("thicker by then", x.blast(0, 6), 1);
        due("thicker by then", x.count(3), 20);
        x = Due.laid("w3,9,0;");
        x.blast(0, 9);
        due("double", x.count(3), 9);
        x.blast(0, 5);
        due("double, again as LAID", x.count(3), 18);
        x = Due.laid("w0,9,1;w0,1,0;");
        x.blast(0, 9);
        due("none outward", x.count(3), 0);
        // The most there can be: 60 told, five double walls of 60 twice.
        x = Due.laid("w3,60,0;".repeat(5) + "s60;");
        for (int w = 0; w < 5; w++) {
            rounded(x, w, 7).blast(w, 8);
            rounded(x, w, 7).blast(w, 4);
        }
        due("all are down", x.count(2), 5);
        due("the most stones", x.count(3), 660);
        due("60 of them", x.use(60), 600);
    }

    // "OUTWARD who is beside it, of the higher number, if there is one, is HURT once more"
    private static void whoIsBesideIfThereIsOne() {
        for (int persons = 1; persons <= 5; persons++) {
            for (int w = 0; w < persons; w++) {
                WallTrumpets x = Due.laid("w0,1,7;".repeat(persons));
                due("outward", x.blast(w, 1), 2);
                for (int b = 0; b < persons; b++) due("hurt of " + b + " by " + w, x.wall(b, 6), b == w + 1 ? 1 : 0);
                due("hurt in all", x.count(4), w + 1 < persons ? 1 : 0);
            }
        }
        WallTrumpets x = Due.laid("w3,1,7;w0,1,7;w0,1,7;");
        x.blast(1, 1);
        x.blast(0, 1);
        due("once more, DOWN, too", x.wall(1, 6), 1);
        x.blast(0, 1);
        due("once more, DOWN, too", x.wall(1, 6), 2);
        due("not by the higher one", x.wall(0, 6), 0);
        due("hurt in all", x.count(4), 3);
    }

    // "stands again, THICK by half of what it was LAID, cut, and 1"
    private static void doubleStandsAgainByHalfAndOne() {
        for (int t = 1; t <= 60; t++) {
            WallTrumpets x = rounded(Due.laid("w3," + t + ",0;"), 0, 7);
            due("it falls", x.blast(0, 8), 1);
            due("it stands", x.wall(0, 4), 0);
            due("half of " + t + ", and 1", x.wall(0, 3), t / 2 + 1);
            due("it fell once", x.wall(0, 7), 1);
            due("as laid", x.wall(0, 1), t);
        }
        WallTrumpets x = Script.after("text w3,9,0;", "lay", "blast 0 7", "blast 0 2");
        due("of what it was LAID", x.wall(0, 3), 5);
    }

    // "a DOUBLE one that FALLS for the first time .. each other one is DOWN"
    private static void doubleForTheFirstTimeOnly() {
        WallTrumpets x = Due.laid("w3,1,0;w0,9,0;h0,1,4;");
        due("first", x.blast(0, 1), 1);
        due("it stands", x.count(2), 0);
        due("what it holds up is as it was", x.wall(1, 3), 9);
        due("again", x.blast(0, 1), 1);
        due("down", x.wall(0, 4), 1);
        due("down, too", x.wall(0, 7), 1);
        due("thick by 0", x.wall(0, 3), 0);
        due("what it holds up is thinner", x.wall(1, 3), 5);
        due("no third time", x.blast(0, 1), NO);
        for (int kind = 0; kind < 3; kind++) {
            x = Due.laid("w" + kind + ",1,0;");
            x.blast(0, 1);
            due("each other one is DOWN", x.wall(0, 4), 1);
            due("each other one is not DOUBLE", x.wall(0, 7), 0);
        }
    }

    // "all WALLS that it holds up, that stand, .. are THICK by S less each"
    private static void wallsThatStandAreThinner() {
        WallTrumpets x = Due.laid("w0,1,0;w0,50,0;w1,50,0;w2,50,0;w3,50,0;h0,1,1;h0,2,40;h0,4,39;h1,0,5;");
        x.blast(0, 1);
        int[] thick = {0, 49, 10, 50, 11};
        for (int w = 0; w < 5; w++) due("thick " + w, x.wall(w, 3), thick[w]);
        x = Due.laid("w0,1,0;w0,1,0;h0,1,40;");
        x.blast(1, 1);
        x.blast(0, 1);
        due("one that is DOWN stays so", x.wall(1, 3), 0);
        due("one that is DOWN does not FALL", x.count(3), 2);
        // Held up, but not by the one that falls.
        x = Due.laid("w0,1,0;w0,9,0;w0,9,0;h1,2,9;");
        x.blast(0, 1);
        due("not held up by it", x.wall(2, 3), 9);
        due("an OUTWARD fall likewise", Script.after("text w0,1,7;w0,9,0;h0,1,4;", "lay", "blast 0 1").wall(1, 3), 5);
        due("a blast that fells not does nothing to it", Script.after("text w0,9,0;w0,9,0;h0,1,4;", "lay", "blast 0 1").wall(1, 3), 9);
    }

    // "which are THICK by 0 or less then FALL, too"
    private static void thickBy0OrLess() {
        for (int s = 1; s <= 40; s++) {
            WallTrumpets x = Due.laid("w0,1,0;w0,20,0;h0,1," + s + ";");
            x.blast(0, 1);
            due("held up by " + s, x.wall(1, 4), s >= 20 ? 1 : 0);
            due("thick", x.wall(1, 3), Math.max(0, 20 - s));
            due("stones", x.count(3), s >= 20 ? 21 : 1);
        }
    }

    // "FALL, too, INWARD"
    private static void inwardWhateverItLeans() {
        WallTrumpets x = Due.laid("w0,1,7;w0,2,7;w0,60,0;h0,1,2;");
        due("OUTWARD itself", x.blast(0, 1), 2);
        due("stones of the other one", x.count(3), 2);
        due("nobody is hurt by the other one", x.wall(2, 6), 0);
        due("hurt", x.wall(1, 6), 1);
    }

    // "are THICK by S less each; which are THICK by 0 or less then FALL": not one ahead of the other's S
    private static void allAreThinnerAheadOfAnyFall() {
        WallTrumpets x = Due.laid("w0,1,0;w0,3,0;w3,4,0;h0,1,3;h0,2,4;h1,2,5;");
        x.blast(0, 1);
        due("2 falls by 1, and not once more", x.wall(2, 4), 0);
        due("thick", x.wall(2, 3), 3);
        due("stones", x.count(3), 1 + 3 + 4);
    }

    // "FALL, too, INWARD, 0 first"
    private static void zeroFirst() {
        WallTrumpets x = Due.laid("w0,1,0;w0,1,0;w0,1,0;w3,4,0;h0,2,1;h0,1,1;h1,3,4;h2,3,2;");
        x.blast(0, 1);
        due("3 falls by 1, then is thinner by 2", x.wall(3, 3), 1);
        x = Due.laid("w0,1,0;w0,1,0;w0,1,0;w3,4,0;h0,2,1;h0,1,1;h2,3,4;h1,3,2;");
        x.blast(0, 1);
        due("3 is thinner by 1, then falls by 2", x.wall(3, 3), 3);
        // The one that falls first of all may be of any number.
        x = Due.laid("w0,1,0;w3,4,0;w0,1,0;w0,1,0;h3,0,1;h3,2,1;h0,1,4;h2,1,2;");
        x.blast(3, 1);
        due("1 falls by 0, then is thinner by 2", x.wall(1, 3), 1);
    }

    // "each with all that comes of it ahead of the next one"
    private static void allThatComesOfItAheadOfTheNext() {
        WallTrumpets x = Due.laid("w0,1,0;w0,1,0;w0,1,0;w0,1,0;w3,4,0;h0,1,1;h0,2,1;h1,3,1;h3,4,4;h2,4,2;");
        x.blast(0, 1);
        due("down", x.count(2), 4);
        due("4 falls by 3 ahead of 2", x.wall(4, 3), 1);
        // 4 waits for its turn by 0 while 1 falls with 3; 3 does not bring down who is not held up by it.
        x = Due.laid("w0,1,0;w0,1,0;w3,4,0;w0,1,0;w0,1,0;h0,1,1;h0,4,1;h1,3,1;h3,2,4;h4,2,2;");
        x.blast(0, 1);
        due("2 falls by 3 ahead of 4", x.wall(2, 3), 1);
        x = Due.laid("w0,1,0;".repeat(5) + "h0,4,1;h4,3,1;h3,2,1;h2,1,1;h1,0,1;");
        x.blast(0, 1);
        due("a chain of all", x.count(2), 5);
        due("each once", x.count(3), 5);
        x = Due.laid("w0,1,0;".repeat(5) + "h0,4,1;h4,3,1;h3,2,1;h2,1,1;h1,0,1;");
        x.blast(3, 1);
        due("a ring from within", x.count(2), 5);
    }

    // "(a DOUBLE one likewise)"
    private static void aDoubleOneLikewise() {
        WallTrumpets x = Due.laid("w0,1,0;w3,4,7;w0,9,0;h0,1,4;h1,2,9;");
        x.blast(0, 1);
        due("it falls for the first time", x.wall(1, 7), 1);
        due("it stands again", x.wall(1, 3), 3);
        due("what it holds up is as it was", x.wall(2, 3), 9);
        due("its stones", x.count(3), 5);
        // Falls for the second time with another one.
        x = Due.laid("w0,1,0;w3,4,0;w0,9,0;h0,1,3;h1,2,9;");
        x.blast(1, 4);
        x.blast(0, 1);
        due("down", x.count(2), 3);
        due("stones", x.count(3), 4 + 1 + 4 + 9);
        // Both times by one blast.
        x = Due.laid("w0,1,0;w0,1,0;w0,1,0;w3,4,0;h0,1,1;h0,2,1;h1,3,4;h2,3,3;");
        x.blast(0, 1);
        due("both times", x.count(2), 4);
        due("both times", x.count(3), 1 + 1 + 1 + 4 + 4);
    }

    // "On a DAY each GROWING WALL that stands is THICK by 1 more (99 at most)."
    private static void growingOnes99AtMost() {
        WallTrumpets x = Due.laid("w0,60,0;w1,60,0;w2,60,0;w3,60,0;w1,51,0;");
        x.pass(24);
        x.pass(14);
        int[] at38 = {60, 98, 60, 60, 89};
        for (int w = 0; w < 5; w++) due("38 days: " + w, x.wall(w, 3), at38[w]);
        for (int day = 39; day <= 41; day++) {
            due("a day", x.pass(1), day);
            due("99 at most", x.wall(1, 3), 99);
        }
        x.pass(24);
        due("99 at most, by many days at one time", x.wall(4, 3), 99);
        due("days go by all the same", x.count(1), 65);
        x.blast(1, 9);
        due("thinner", x.wall(1, 3), 90);
        x.pass(10);
        due("and thicker", x.wall(1, 3), 99);
        x = Due.laid("w1,1,0;w1,1,0;");
        x.blast(0, 1);
        x.pass(24);
        due("DOWN", x.wall(0, 3), 0);
        due("DOWN", x.wall(0, 4), 1);
        due("stands", x.wall(1, 3), 25);
        due("all are down: a day goes by", Script.after("text w1,1,0;", "lay", "blast 0 1").pass(1), 1);
    }

    // Promise 10: "n DAYS (1 to 24) go by: how many have gone by in all. BAD."
    private static void days1To24() {
        for (int n = -2; n <= 30; n++) {
            WallTrumpets x = Due.laid("w1,1,0;");
            boolean is = n >= 1 && n <= 24;
            due("pass " + n, x.pass(n), is ? n : BAD);
            due("gone by", x.count(1), is ? n : 0);
            due("thick", x.wall(0, 3), is ? 1 + n : 1);
        }
        WallTrumpets x = new WallTrumpets();
        for (int i = 1; i <= 100; i++) due("in all", x.pass(24), 24 * i);
    }

    // "A PROP is set (where one of the two is DOWN, too)"
    private static void propWhereOneIsDown() {
        WallTrumpets x = Due.laid("w0,1,0;w0,9,0;w0,1,0;");
        x.blast(0, 1);
        due("by one that is DOWN", x.prop(0, 1, 40), 0);
        due("it does nothing to it", x.wall(1, 3), 9);
        due("it does not fall", x.wall(1, 4), 0);
        due("of one that is DOWN", x.prop(1, 0, 40), 0);
        x.blast(2, 1);
        due("of two that are", x.prop(0, 2, 1), 0);
        due("props", x.count(5), 3);
        due("taken", x.prop(0, 1, 0), 40);
        due("taken", x.prop(1, 0, 0), 40);
        due("taken", x.prop(0, 2, 0), 1);
        due("props", x.count(5), 0);
        x.prop(1, 0, 5);
        due("it falls", x.blast(1, 9), 1);
        due("one that is DOWN stays so", x.count(3), 11);
    }

    // "A holds up B by S from then on; one is taken"; promise 11: "(1 to 40; 0: it is taken) .. NO: it is so"
    private static void propBy1To40OrTaken() {
        for (int s = -2; s <= 43; s++) {
            WallTrumpets x = Due.laid("w0,1,0;w0,60,0;");
            boolean is = s >= 1 && s <= 40;
            due("prop by " + s, x.prop(0, 1, s), is ? 0 : s == 0 ? NO : BAD);
            due("holds", x.holds(0, 1), is ? s : 0);
            due("not the other way", x.holds(1, 0), 0);
            due("props", x.count(5), is ? 1 : 0);
            due("set so", x.prop(0, 1, s), is || s == 0 ? NO : BAD);
            due("acts", x.count(7), is ? 1 : 0);
            x.blast(0, 1);
            due("from then on", x.wall(1, 3), is ? 60 - s : 60);
        }
        WallTrumpets x = Due.laid("w0,1,0;w0,60,0;h0,1,40;");
        due("by how much it held up", x.prop(0, 1, 39), 40);
        due("by how much it held up", x.prop(0, 1, 40), 39);
        due("taken", x.prop(0, 1, 0), 40);
        due("taken already", x.prop(0, 1, 0), NO);
        x.blast(0, 1);
        due("held up no more", x.wall(1, 3), 60);
        // All that there can be.
        x = Due.laid("w0,60,0;".repeat(5));
        int props = 0;
        for (int a = 0; a < 5; a++) {
            for (int b = 0; b < 5; b++) {
                due("prop " + a + "," + b, x.prop(a, b, 40), a == b ? BAD : 0);
                if (a != b) props++;
                due("props", x.count(5), props);
            }
        }
        due("20", x.count(5), 20);
    }

    // Promise 12: "n STONES (1 to 60) are used: how many are left. BAD; NO: there are not so many."
    private static void use1To60() {
        for (int n = -2; n <= 63; n++) {
            boolean is = n >= 1 && n <= 60;
            WallTrumpets x = Due.laid("w0,1,0;s60;");
            due("use " + n, x.use(n), is ? 60 - n : BAD);
            due("left", x.count(3), is ? 60 - n : 60);
            x = Due.laid("w0,1,0;s30;");
            due("use " + n + " of 30", x.use(n), is ? n <= 30 ? 30 - n : NO : BAD);
            x = Due.laid("w0,1,0;");
            due("use " + n + " of none", x.use(n), is ? NO : BAD);
        }
        WallTrumpets x = Due.laid("w0,9,0;s60;");
        x.blast(0, 9);
        due("69: 61 at one time can't be", x.use(61), BAD);
        due("69: 60 can", x.use(60), 9);
        due("9 are left", x.use(10), NO);
        due("9 are left", x.use(9), 0);
    }

    // "(.. the last 8 can be)"; promise 13: "how many more can be. NO."
    private static void theLast8CanBeUndone() {
        for (int acts = 0; acts <= 30; acts++) {
            WallTrumpets x = Due.laid("w0,60,0;");
            for (int i = 0; i < acts; i++) x.blast(0, 1);
            int can = Math.min(acts, 8);
            due("can be", x.count(7), can);
            for (int i = 1; i <= can; i++) {
                due(acts + " acts, undo " + i, x.undo(), can - i);
                due("thick", x.wall(0, 3), 60 - acts + i);
                due("can be", x.count(7), can - i);
            }
            due("no more", x.undo(), NO);
            due("thick", x.wall(0, 3), 60 - acts + can);
        }
        // Undone ones make room, and what is undone is not done again.
        WallTrumpets x = Due.laid("w0,60,0;");
        for (int i = 0; i < 12; i++) x.blast(0, 1);
        for (int i = 0; i < 5; i++) x.undo();
        for (int i = 0; i < 4; i++) x.blast(0, 2);
        due("3 and 4", x.count(7), 7);
        int[] thick = {47, 49, 51, 53, 54, 55, 56};
        for (int i = 0; i < 7; i++) {
            due("undo", x.undo(), 6 - i);
            due("thick", x.wall(0, 3), thick[i]);
        }
        due("no more", x.undo(), NO);
    }

    // "UNDONE are the latest of all of these": each kind of act, with all that came of it
    private static void eachActIsUndoneWhole() {
        String[] scene = {"text w0,9,7;w3,15,2;w1,8,3;w2,4,0;w0,30,4;h0,1,40;h1,4,12;h3,4,30;s9;", "lay", "note 3 1 0", "keep", "round 0", "round 3",
            "pass 1", "keep", "text s1;"};
        Seen ahead = Seen.of(scene);
        for (String act : new String[] {"round 0", "round 3", "blast 0 1", "blast 0 9", "blast 3 9", "blast 2 9", "pass 1", "pass 24", "prop 0 1 0", "prop 4 0 40",
            "prop 0 1 39", "use 1", "use 9"}) {
            Due.isTrue(act + " is done", Script.call(Script.after(scene), act) >= 0);
            Due.isTrue(act + " changes something", !Seen.of(Script.and(scene, act)).unlike(ahead).isEmpty());
            Seen.alike(act + " is undone", ahead, Seen.of(Script.and(scene, act, "undo")));
        }
        // What is no act is not undone: write, wipe, note, forget, keep.
        String[] noActs = {"round 0", "write 115", "note 1 0 0", "keep", "undo"};
        WallTrumpets x = Script.after(noActs);
        due("the act is undone", x.wall(0, 5), 0);
        due("the letter stays", x.count(9), 1);
        due("what is noted stays", x.count(6), 1);
        due("what is kept stays", x.count(8), 1);
    }

    // "(all that go by at one time are one"
    private static void allDaysAtOneTimeAreOne() {
        WallTrumpets x = Due.laid("w1,1,0;");
        x.pass(24);
        x.pass(1);
        due("two", x.count(7), 2);
        due("a day", x.undo(), 1);
        due("24", x.count(1), 24);
        due("24 at one time", x.undo(), 0);
        due("none", x.count(1), 0);
        due("thick", x.wall(0, 3), 1);
    }
}
