/** The bounds of part 3 (CALLS, ROUNDS, KEY, ORDER, SAVE, BUILT) and of promises 14 to 19. */
public final class QuestionsBoundsTest {
    private static final int BAD = -1, NO = -2, NONE = -4;
    private static final int[] SHY = {0, 2, 4, 6, 7, 7, 7, 7};

    public static void main(String[] args) {
        callsTheFewest1To9();
        callsOfAWallThatStands();
        roundsTheFewest0To7();
        roundsOfAShyOne();
        roundsMoreThanNow();
        roundsOf1To9Trumpets();
        keyMostOthers();
        keyOfSeveralTheLowest();
        keyOfOthersThatAreNotDownNow();
        keyWhateverTheForce();
        keyNone();
        orderOfKFromMinus1To9();
        orderWhenAllAreDown();
        orderOfFewest();
        orderOfSeveralTheFirst();
        orderOfDoubleOnes();
        orderEachAsRoundedNow();
        orderOfTownsMuchAlike();
        orderNone();
        saveNoneToo();
        saveTheFewest();
        saveOfSeveralTheLowest();
        saveOfThoseWhoHoldUp();
        saveOfTwoThatStand();
        builtOfAllStones();
        builtWithoutStones();
        builtOfMany();
        Due.end();
    }

    private static void due(String call, int got, int want) {
        Due.is(call, got, want);
    }

    private static WallTrumpets rounded(WallTrumpets x, int w, int times) {
        for (int i = 0; i < times; i++) x.round(w);
        return x;
    }

    // "CALLS for a WALL that stands: the fewest TRUMPETS (1 to 9) by which it would FALL; none."
    private static void callsTheFewest1To9() {
        for (int r = 0; r <= 7; r++) {
            for (int t = 1; t <= 60; t++) {
                WallTrumpets x = rounded(Due.laid("w0," + t + ",7;"), 0, r);
                int fewest = (t + r) / (r + 1);
                due("calls of " + t + ", rounded " + r, x.calls(0), fewest <= 9 ? fewest : NONE);
                if (fewest > 9) continue;
                if (fewest > 1) due("one fewer", Script.play(x, "blast 0 " + (fewest - 1)).wall(0, 4), 0);
                if (fewest > 1) x.undo();
                due("as many", Script.play(x, "blast 0 " + fewest).wall(0, 4), 1);
            }
        }
        due("72, rounded 7 times", rounded(Script.after("text w1,60,0;", "lay", "pass 12"), 0, 7).calls(0), 9);
        due("73, rounded 7 times", rounded(Script.after("text w1,60,0;", "lay", "pass 13"), 0, 7).calls(0), NONE);
        due("99, rounded 7 times", rounded(Script.after("text w1,60,0;", "lay", "pass 24", "pass 24"), 0, 7).calls(0), NONE);
    }

    // Promise 14: "NONE; BAD; NO: it is DOWN."
    private static void callsOfAWallThatStands() {
        WallTrumpets x = Due.laid("w3,1,0;w0,60,0;");
        x.blast(0, 1);
        due("fell once", x.calls(0), 1);
        x.blast(0, 1);
        due("down", x.calls(0), NO);
        due("none", x.calls(1), NONE);
        due("no such", x.calls(2), BAD);
        due("no such", x.calls(-1), BAD);
    }

    // "ROUNDS .. the fewest ROUNDINGS more (0 to 7) of its PERSON with which it would FALL by n TRUMPETS, INWARD; none."
    private static void roundsTheFewest0To7() {
        for (int lean = 0; lean <= 7; lean++) {
            for (int t = 1; t <= 60; t++) {
                WallTrumpets x = Due.laid("w0," + t + "," + lean + ";");
                for (int n = 1; n <= 9; n++) {
                    int fewest = Math.max(lean, (t + n - 1) / n - 1);
                    due("rounds of " + t + "," + lean + " by " + n, x.rounds(0, n), fewest <= 7 ? fewest : NONE);
                }
            }
        }
    }

    // ROUNDS of a SHY one, each of which rounds it twice, 7 at most
    private static void roundsOfAShyOne() {
        for (int lean = 0; lean <= 7; lean++) {
            for (int t = 1; t <= 60; t++) {
                WallTrumpets x = Due.laid("w2," + t + "," + lean + ";");
                for (int n = 1; n <= 9; n++) {
                    int want = NONE;
                    for (int more = 7; more >= 0; more--) if (SHY[more] >= lean && n * (SHY[more] + 1) >= t) want = more;
                    due("rounds of a shy " + t + "," + lean + " by " + n, x.rounds(0, n), want);
                }
            }
        }
        due("7 by 4", Due.laid("w2,1,7;").rounds(0, 1), 4);
    }

    // "ROUNDINGS more": from as it is ROUNDED now
    private static void roundsMoreThanNow() {
        for (int r = 0; r <= 7; r++) {
            WallTrumpets x = rounded(Due.laid("w0,8,7;w0,9,0;w0,1,3;"), 0, r);
            rounded(rounded(x, 1, r), 2, r);
            due("7 in all", x.rounds(0, 1), 7 - r);
            due("8 in all can't be", x.rounds(1, 1), NONE);
            due("0, if it is enough now", x.rounds(2, 1), Math.max(0, 3 - r));
            due("nothing changes", x.wall(0, 5), r);
        }
    }

    // Promise 15: "NONE; BAD; NO: it is DOWN."
    private static void roundsOf1To9Trumpets() {
        for (int n = -2; n <= 12; n++) {
            WallTrumpets x = Due.laid("w0,1,0;w0,1,0;");
            boolean is = n >= 1 && n <= 9;
            due("rounds by " + n, x.rounds(0, n), is ? 0 : BAD);
            x.blast(0, 1);
            due("down, rounds by " + n, x.rounds(0, n), is ? NO : BAD);
            due("no such, rounds by " + n, x.rounds(2, n), BAD);
        }
    }

    // "KEY: the WALL that stands .. by which most others are DOWN then"
    private static void keyMostOthers() {
        keyIs("alone", Due.laid("w0,1,0;"), 0, 0);
        keyIs("none holds up", Due.laid("w0,1,0;".repeat(5)), 0, 0);
        keyIs("short by one", Due.laid("w0,1,0;w0,9,0;h0,1,8;"), 0, 0);
        keyIs("as much", Due.laid("w0,1,0;w0,9,0;h1,0,1;"), 1, 1);
        keyIs("all the others", Due.laid("w0,9,0;".repeat(5) + "h4,0,9;h4,1,9;h4,2,9;h4,3,9;"), 4, 4);
        keyIs("in a chain", Due.laid("w0,9,0;".repeat(5) + "h3,2,9;h2,1,9;h1,0,9;h0,4,9;"), 3, 4);
        keyIs("in a ring, itself not told", Due.laid("w0,9,0;w0,9,0;w0,9,0;h0,1,9;h1,2,9;h2,0,9;"), 0, 2);
        keyIs("a double one does not come down", Due.laid("w3,9,0;w0,9,0;h0,1,9;"), 0, 0);
        keyIs("a double one that fell once does", Script.after("text w3,9,0;w0,9,0;h0,1,9;", "lay", "blast 0 9"), 0, 1);
        keyIs("a double one is not DOWN by its first fall", Due.laid("w0,9,0;w3,9,0;w0,9,0;w0,9,0;h0,1,9;h2,3,9;"), 2, 1);
    }

    private static void keyIs(String name, WallTrumpets x, int which, int many) {
        due("key, " + name + ": which", x.key(0), which);
        due("key, " + name + ": how many", x.key(1), many);
        due("key, " + name + ": what 2", x.key(2), BAD);
        due("key, " + name + ": what -1", x.key(-1), BAD);
    }

    // "of several the lowest"
    private static void keyOfSeveralTheLowest() {
        keyIs("1 and 2", Due.laid("w0,9,0;w0,9,0;w0,9,0;h2,0,9;h1,0,9;"), 1, 1);
        keyIs("0, 3 and 4", Due.laid("w0,9,0;".repeat(5) + "h4,2,9;h3,1,9;h0,1,9;"), 0, 1);
        keyIs("the lowest that stands", Script.after("text w0,9,0;w0,9,0;w0,9,0;", "lay", "blast 0 9"), 1, 0);
        keyIs("the last that stands", Script.after("text w0,9,0;w0,9,0;", "lay", "blast 0 9"), 1, 0);
    }

    // "that are not now"
    private static void keyOfOthersThatAreNotDownNow() {
        String[] town = {"text w0,9,0;w0,9,0;w0,9,0;w0,9,0;h0,1,9;h0,2,9;h3,2,9;", "lay"};
        keyIs("both", Script.after(town), 0, 2);
        keyIs("one is DOWN", Script.after(Script.and(town, "blast 1 9")), 0, 1);
        keyIs("both are", Script.after(Script.and(town, "blast 1 9", "blast 2 9")), 0, 0);
        keyIs("it is DOWN itself", Script.after(Script.and(town, "prop 0 2 0", "blast 0 9")), 3, 1);
    }

    // "FALLING INWARD now (whatever the FORCE)"
    private static void keyWhateverTheForce() {
        WallTrumpets x = Due.laid("w0,1,0;w0,60,7;w0,9,0;h1,2,9;");
        keyIs("thick by 60", x, 1, 1);
        due("nobody is hurt", x.count(4), 0);
        due("no stones", x.count(3), 0);
    }

    // Promise 16: "NONE; BAD."
    private static void keyNone() {
        WallTrumpets x = Script.after("text w0,1,0;", "lay", "blast 0 1");
        for (int what = -2; what <= 4; what++) due("key " + what + ", all are down", x.key(what), what == 0 || what == 1 ? NONE : BAD);
    }

    private static void orderIs(String name, WallTrumpets x, int... want) {
        for (int k = -4; k <= 13; k++) {
            int due = k < -1 || k > 9 ? BAD : k + 1 < want.length ? want[k + 1] : NONE;
            due("order, " + name + ": " + k, x.order(k), due);
        }
    }

    // Promise 17: "TRUMPETS (k = -1; ..), the k-th (0 to 9; NONE: there are not so many). NONE; BAD."
    private static void orderOfKFromMinus1To9() {
        orderIs("one, of the least", Due.laid("w0,1,0;"), 1, 0);
        orderIs("one", Due.laid("w0,9,0;"), 9, 0);
        orderIs("five", Due.laid("w0,9,0;".repeat(5)), 45, 0, 1, 2, 3, 4);
        orderIs("nine", Due.laid("w3,1,0;".repeat(4) + "w0,1,0;"), 9, 0, 0, 1, 1, 2, 2, 3, 3, 4);
        orderIs("ten, the most there can be", Due.laid("w3,1,0;".repeat(5)), 10, 0, 0, 1, 1, 2, 2, 3, 3, 4, 4);
        orderIs("ten, by the most trumpets", Due.laid("w3,9,0;".repeat(5)), 70, 0, 0, 1, 1, 2, 2, 3, 3, 4, 4);
        for (int k : new int[] {Integer.MIN_VALUE, Integer.MAX_VALUE}) due("order " + k, new WallTrumpets().order(k), BAD);
    }

    // "(k = -1; 0: all are DOWN)"
    private static void orderWhenAllAreDown() {
        WallTrumpets x = Script.after("text w0,1,0;w3,1,0;", "lay", "blast 0 1", "blast 1 1");
        orderIs("one is left", x, 1, 1);
        x.blast(1, 1);
        orderIs("all are down", x, 0);
    }

    // "that of fewest TRUMPETS in sum"
    private static void orderOfFewest() {
        orderIs("1 ahead spares one", Due.laid("w0,9,0;w0,9,0;h1,0,1;"), 17, 1, 0);
        orderIs("1 ahead brings down 0", Due.laid("w0,9,0;w0,9,0;h1,0,9;"), 9, 1);
        orderIs("the last brings down all", Due.laid("w0,1,0;".repeat(4) + "w0,2,0;h4,0,1;h4,1,1;h4,2,1;h4,3,1;"), 2, 4);
        orderIs("0 comes down with 2", Due.laid("w0,1,0;w0,1,0;w0,9,0;h2,0,1;"), 10, 1, 2);
        orderIs("the same walls are left, by fewer", Due.laid("w0,9,0;w0,9,0;w0,5,0;h1,0,1;"), 22, 1, 0, 2);
        orderIs("too thick now, but it comes down with 1", Due.laid("w0,30,0;w0,5,0;h1,0,40;"), 5, 1);
        orderIs("9 can fell it, but not 10", Due.laid("w0,10,0;w0,9,0;h1,0,1;"), 18, 1, 0);
    }

    // "of several the first (by which is first, the lowest ahead, then the next, ..)"
    private static void orderOfSeveralTheFirst() {
        orderIs("all alike", Due.laid("w0,5,0;w0,4,0;w0,3,0;"), 12, 0, 1, 2);
        orderIs("2 ahead of 0, so 1 first", Due.laid("w0,5,0;w0,5,0;w0,5,0;h2,0,2;"), 13, 1, 2, 0);
        orderIs("2 ahead of 1, so 0 first", Due.laid("w0,5,0;w0,5,0;w0,5,0;h2,1,2;"), 13, 0, 2, 1);
        orderIs("either is spared by the other", Due.laid("w0,5,0;w0,5,0;h0,1,2;h1,0,2;"), 8, 0, 1);
        orderIs("either brings down the other", Due.laid("w0,5,0;w0,5,0;h0,1,5;h1,0,5;"), 5, 0);
        orderIs("a longer one that is first", Due.laid("w0,1,0;w0,1,0;w0,2,0;h2,1,1;h2,0,1;"), 2, 2);
        orderIs("two, of as many as one and the other", Due.laid("w0,1,0;w0,2,0;w0,3,0;h2,1,2;h0,2,1;"), 3, 0, 2);
    }

    // "each once; a DOUBLE one again as ROUNDED no more"
    private static void orderOfDoubleOnes() {
        orderIs("twice", Due.laid("w3,8,0;"), 13, 0, 0);
        orderIs("rounded 7 times, then no more", rounded(Due.laid("w3,8,0;"), 0, 7), 6, 0, 0);
        orderIs("again it is too thick", rounded(Due.laid("w3,18,0;"), 0, 7), NONE);
        orderIs("again it is just not too thick", rounded(Due.laid("w3,17,0;"), 0, 7), 12, 0, 0);
        orderIs("fell once", Script.after("text w3,8,0;", "lay", "blast 0 8"), 5, 0);
        orderIs("it falls with another one for the second time", Due.laid("w3,4,0;w0,9,0;h1,0,3;"), 13, 0, 1);
        orderIs("it falls with another one for the first time, too", Due.laid("w3,4,0;w0,1,0;h1,0,4;"), 4, 1, 0);
        orderIs("a double one holds up", Due.laid("w0,9,0;w3,1,0;h1,0,9;"), 2, 1, 1);
    }

    // "each at a WALL that stands then, ROUNDED as now"
    private static void orderEachAsRoundedNow() {
        for (int r = 0; r <= 7; r++) {
            WallTrumpets x = rounded(Due.laid("w0,9,7;w0,8,0;"), 0, r);
            orderIs("rounded " + r, x, (9 + r) / (r + 1) + 8, 0, 1);
            due("nothing changes", x.wall(0, 5), r);
        }
    }

    // "that of fewest TRUMPETS in sum, of several the first": also where towns on the way are nearly alike, which the
    // table of towns that were come by must keep apart.
    private static void orderOfTownsMuchAlike() {
        WallTrumpets x = rounded(Script.after("text w1,60,0;", "lay", "pass 4"), 0, 7);
        orderIs("thick by 64", x, 8, 0);
        x = rounded(Script.after("text w0,1,0;w1,60,0;w0,1,0;", "lay", "pass 4"), 1, 7);
        orderIs("thick by 64 against down", x, 10, 0, 1, 2);
        // 0: 9 and 5; 2: 1 and 1, by which 1 is thick by 1; 1: 1, then it is thick by 2; 3: 8 and 5; 1 by 1 less: 1.
        x = Due.laid("w3,9,0;w3,3,0;w3,1,0;w3,8,0;h3,1,1;h2,1,2;");
        orderIs("1 as soon as it is thick by 1", x, 31, 0, 0, 2, 2, 1, 3, 3, 1);
    }

    // "such that all are DOWN .. none"
    private static void orderNone() {
        orderIs("10 is too thick", Due.laid("w0,10,0;"), NONE);
        orderIs("the others do not matter then", Due.laid("w0,1,0;w0,1,0;w0,10,0;"), NONE);
        orderIs("short by one", Due.laid("w0,50,0;w0,1,0;h1,0,40;"), NONE);
        orderIs("as much", Due.laid("w0,49,0;w0,1,0;h1,0,40;"), 10, 1, 0);
    }

    // "SAVE .. of sets of those who hold up the first one (bits) .. none, too"
    private static void saveNoneToo() {
        due("held up by none", Due.laid("w0,9,0;w0,9,0;").save(1, 0), 0);
        due("short by one", Due.laid("w0,9,0;w0,9,0;h0,1,8;").save(1, 0), 0);
        due("as much", Due.laid("w0,9,0;w0,9,0;h0,1,9;").save(1, 0), 1);
        due("by the least", Due.laid("w0,9,0;w0,1,0;h0,1,1;").save(1, 0), 1);
        due("by the most", Due.laid("w0,9,0;w0,40,0;h0,1,40;").save(1, 0), 1);
        due("by the most, short by one", Due.laid("w0,9,0;w0,41,0;h0,1,40;").save(1, 0), 0);
        due("held up by another one", Due.laid("w0,9,0;w0,9,0;w0,9,0;h2,1,9;").save(1, 0), 0);
        due("a double one for the first time", Due.laid("w0,9,0;w3,9,0;h0,1,9;").save(1, 0), 0);
        due("a double one for the second time", Script.after("text w0,9,0;w3,9,0;h0,1,9;", "lay", "blast 1 9").save(1, 0), 1);
        due("the other one is double", Due.laid("w3,9,0;w0,9,0;h0,1,9;").save(1, 0), 0);
        due("the other one fell once", Script.after("text w3,9,0;w0,9,0;h0,1,9;", "lay", "blast 0 9").save(1, 0), 1);
    }

    // "the fewest .. so that the first one is not DOWN as the other one FALLS INWARD now"
    private static void saveTheFewest() {
        String all = "w0,9,0;".repeat(5) + "h4,0,9;h4,1,9;h4,2,9;";
        due("all four", Due.laid(all + "h0,3,9;h1,3,9;h2,3,9;h4,3,9;").save(3, 4), 1 | 2 | 4 | 16);
        due("of four, one", Due.laid(all + "h0,3,2;h1,3,2;h2,3,2;h4,3,3;").save(3, 4), 1);
        due("of four, the one", Due.laid(all + "h0,3,2;h1,3,2;h2,3,9;h4,3,3;").save(3, 4), 4);
        due("of four, three", Due.laid(all + "h0,3,5;h1,3,5;h2,3,5;h4,3,5;").save(3, 4), 1 | 2 | 4);
        due("of four, two", Due.laid(all + "h0,3,5;h1,3,5;h2,3,3;h4,3,1;").save(3, 4), 1 | 2);
        due("in a chain", Due.laid("w0,9,0;".repeat(5) + "h0,1,9;h1,2,9;h2,3,9;h3,4,9;").save(4, 0), 8);
        due("the other one leans", Due.laid("w0,9,7;w0,9,0;h0,1,9;").save(1, 0), 1);
        due("the other one is thick", Due.laid("w0,60,0;w0,9,0;h0,1,9;").save(1, 0), 1);
    }

    // "of several the lowest as bits"
    private static void saveOfSeveralTheLowest() {
        String two = "w0,9,0;w0,9,0;w0,9,0;w0,9,0;w0,9,0;h0,1,9;h0,2,9;h0,3,9;";
        due("1, 2 or 8", Due.laid(two + "h1,4,4;h2,4,4;h3,4,4;").save(4, 0), 2);
        due("2 and 4, or 2 and 8, or 4 and 8", Due.laid(two + "h1,4,6;h2,4,6;h3,4,6;").save(4, 0), 6);
        due("4 and 8: with one of them 2 is not enough", Due.laid(two + "h1,4,1;h2,4,9;h3,4,9;").save(4, 0), 12);
        due("2 and 8 ahead of 4 and 8", Due.laid(two + "h1,4,5;h2,4,5;h3,4,9;").save(4, 0), 10);
    }

    // "those who hold up the first one": who is DOWN holds up, but need not be taken
    private static void saveOfThoseWhoHoldUp() {
        WallTrumpets x = Script.after("text w0,9,0;w0,9,0;w0,20,0;h0,2,11;h1,2,9;", "lay", "blast 0 9");
        due("9 are left", x.wall(2, 3), 9);
        due("only who stands", x.save(2, 1), 2);
        // The other one falls by a prop of its own to the first one, and by one that comes back to it.
        due("a ring", Due.laid("w0,9,0;w0,9,0;h0,1,9;h1,0,9;").save(1, 0), 1);
        due("a ring", Due.laid("w0,9,0;w0,9,0;h0,1,9;h1,0,9;").save(0, 1), 2);
    }

    // Promise 18: "BAD (alike, too); NO: one is DOWN."
    private static void saveOfTwoThatStand() {
        WallTrumpets x = Script.after("text w0,1,0;w0,1,0;w0,1,0;w0,1,0;", "lay", "blast 0 1", "blast 2 1");
        for (int w = -2; w <= 6; w++) {
            for (int by = -2; by <= 6; by++) {
                boolean are = w >= 0 && by >= 0 && w < 4 && by < 4 && w != by;
                boolean stand = w % 2 != 0 && by % 2 != 0;
                due("save " + w + "," + by, x.save(w, by), are ? stand ? 0 : NO : BAD);
            }
        }
    }

    // "BUILT of all STONES, BENCHES of 3, STEPS of 5, HOUSES of 8, none left over: in how many ways; the fewest of all; none"
    private static void builtOfAllStones() {
        int[] ways = new int[61], fewest = new int[61];
        for (int n = 0; n <= 60; n++) fewest[n] = NONE;
        for (int a = 0; a <= 20; a++) {
            for (int b = 0; b <= 12; b++) {
                for (int c = 0; c <= 7; c++) {
                    int n = 3 * a + 5 * b + 8 * c;
                    if (n > 60) continue;
                    ways[n]++;
                    if (fewest[n] == NONE || a + b + c < fewest[n]) fewest[n] = a + b + c;
                }
            }
        }
        for (int n = 0; n <= 60; n++) {
            WallTrumpets x = Due.laid("w0,1,0;s" + n + ";");
            for (int what = -2; what <= 3; what++) {
                due("built " + what + " of " + n, x.built(what), what == 0 ? ways[n] : what == 1 ? fewest[n] : BAD);
            }
        }
        for (int n : new int[] {1, 2, 4, 7}) {
            due("none of " + n, Due.laid("w0,1,0;s" + n + ";").built(0), 0);
            due("none of " + n, Due.laid("w0,1,0;s" + n + ";").built(1), NONE);
        }
        due("a bench", Due.laid("w0,1,0;s3;").built(1), 1);
        due("a step", Due.laid("w0,1,0;s5;").built(1), 1);
        due("a house, or a bench and a step", Due.laid("w0,1,0;s8;").built(0), 2);
        due("60", Due.laid("w0,1,0;s60;").built(0), 19);
        due("60", Due.laid("w0,1,0;s60;").built(1), 9);
    }

    // "(by how many of each; 1 without STONES); the fewest of all (0 then)"
    private static void builtWithoutStones() {
        WallTrumpets x = Due.laid("w0,1,0;");
        due("1 way", x.built(0), 1);
        due("of 0", x.built(1), 0);
        x = Script.after("use 4");
        due("all are used", x.built(0), 1);
        due("all are used", x.built(1), 0);
        x.undo();
        due("4 again", x.built(0), 0);
        due("4 again", x.built(1), NONE);
    }

    // More STONES than can be told: those of walls that fell
    private static void builtOfMany() {
        WallTrumpets x = Due.laid("w3,60,0;".repeat(5) + "s60;");
        for (int w = 0; w < 5; w++) {
            rounded(x, w, 7).blast(w, 8);
            rounded(x, w, 7).blast(w, 4);
        }
        due("660", x.count(3), 660);
        due("ways of 660", x.built(0), 1859);
        due("fewest of 660", x.built(1), 84);
        x.use(60);
        due("ways of 600", x.built(0), 1541);
        due("fewest of 600", x.built(1), 75);
        due("61", Script.after("text w0,1,0;s60;", "lay", "blast 0 1").built(0), 20);
        due("61", Script.after("text w0,1,0;s60;", "lay", "blast 0 1").built(1), 8);
    }
}
