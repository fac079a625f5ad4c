/** The bounds of "What it is" (TEXT, ITEMS, FAULT), of LAID, and of promises 1 to 7: a method for each sentence. */
public final class TextBoundsTest {
    private static final int BAD = -1, NO = -2, FULL = -3, NONE = -4;
    private static final int LEAST = Integer.MIN_VALUE, MOST = Integer.MAX_VALUE;
    private static final String FIVE = "w0,1,0;".repeat(5);

    public static void main(String[] args) {
        letters200AtMost();
        lettersOf32To126();
        eachALetterThenNumbers();
        numbersOfOneOrTwoFigures();
        numbersPartedByCommas();
        kind0To3();
        thick1To60();
        leans0To7();
        persons5AtMost();
        holdsUnlikeAndToldAhead();
        holdsBy1To40();
        holdsToldOnceMoreTheLastOne();
        stones0To60();
        stones0WithoutAndTheLastOne();
        faultIsTheFirstLetterOfTheFirstItem();
        faultOfNone();
        laidOfAPersonAtLeast();
        laidAtFirst();
        layForgetsAll();
        wipeTellsHowLong();
        wallOfSuchAsThereAre();
        holdsOfSuchAsThereAre();
        rightUpToTheLastCall();
        Due.end();
    }

    private static void due(String call, int got, int want) {
        Due.is(call, got, want);
    }

    private static void faultIs(String text, int want) {
        WallTrumpets x = Due.written(text);
        due("written whole: " + text, x.count(9), text.length());
        due("fault of " + text, x.fault(), want);
    }

    /** A text that is right, and so laid: how many persons. */
    private static WallTrumpets right(String text, int persons) {
        faultIs(text, NONE);
        WallTrumpets x = Due.written(text);
        due("lay of " + text, x.lay(), persons);
        due("persons of " + text, x.count(0), persons);
        return x;
    }

    /** A text that is not, and so not laid. */
    private static void wrong(String text, int fault) {
        faultIs(text, fault);
        due("lay of " + text, Due.written(text).lay(), NO);
    }

    private static void rightOrWrong(String ahead, String item, boolean isRight, int persons) {
        if (isRight) right(ahead + item, persons);
        else wrong(ahead + item, ahead.length());
    }

    // "A TEXT is letters (200 at most)"
    private static void letters200AtMost() {
        String full = "w0,10,0;".repeat(5) + "s10;".repeat(39) + "s11;";
        WallTrumpets x = new WallTrumpets();
        for (int i = 0; i < 200; i++) due("letter " + i, x.write(full.charAt(i)), i + 1);
        for (int i = 0; i < 3; i++) due("letter 200", x.write('s'), FULL);
        due("200 letters", x.count(9), 200);
        due("200 letters have no fault", x.fault(), NONE);
        due("200 letters are laid", x.lay(), 5);
        due("the last item of 200 letters counts", x.count(3), 11);
        wrong(full.substring(0, 199), 196);
        right(full.substring(0, 196), 5);
        // The 201st letter would make it right.
        x = Due.written("s1;".repeat(64) + "w0,10,0;" + ";");
        due("cut at 200", x.fault(), NONE);
        due("cut at 200", x.lay(), 1);
        x = Due.written("s1;".repeat(64) + "w0,10,00;");
        due("cut ahead of the ;", x.fault(), 192);
        x.wipe();
        due("room behind wipe", x.write('s'), 1);
    }

    // Promise 2: "A letter (32 to 126, as in ASCII) comes behind THE TEXT: how long it is. BAD; FULL."
    private static void lettersOf32To126() {
        WallTrumpets x = new WallTrumpets();
        int length = 0;
        for (int letter = -130; letter <= 300; letter++) {
            boolean is = letter >= 32 && letter <= 126;
            if (is) length++;
            due("write " + letter, x.write(letter), is ? length : BAD);
            due("how long behind " + letter, x.count(9), length);
        }
        for (int letter : new int[] {LEAST, MOST, 256 + 'w', 65536 + 'w'}) due("write " + letter, x.write(letter), BAD);
        due("how long", x.count(9), 95);
    }

    // "ITEMS one behind the other, each a letter": w, h, s and no other one
    private static void eachALetterThenNumbers() {
        for (int letter = 32; letter <= 126; letter++) {
            char c = (char) letter;
            rightOrWrong(FIVE, c + "0,1,1;", c == 'h', 5);
            rightOrWrong(FIVE, c + "1;", c == 's', 5);
            rightOrWrong("w0,1,0;", c + "0,1,1;", c == 'w', 2);
            wrong(FIVE + c, 35);
            wrong("" + c, 0);
            wrong(c + FIVE, 0);
            wrong("w0,1,0;" + c + "w0,1,0;", 7);
        }
    }

    // "numbers (one or two figures)": none and three are not so
    private static void numbersOfOneOrTwoFigures() {
        String[][] shapes = {{"w", ",1,0;"}, {"w0,", ",0;"}, {"w0,1,", ";"}, {"h", ",1,1;"}, {"h0,", ",1;"}, {"h0,1,", ";"}, {"s", ";"}};
        String[] figures = {"1", "1", "1", "2", "1", "1", "1"};
        String two = "w0,1,0;w0,1,0;w0,1,0;";
        for (int i = 0; i < shapes.length; i++) {
            String ahead = shapes[i][0], behind = shapes[i][1], n = figures[i];
            int persons = ahead.startsWith("w") ? 4 : 3;
            wrong(two + ahead + behind, 21);
            right(two + ahead + n + behind, persons);
            right(two + ahead + "0" + n + behind, persons);
            wrong(two + ahead + "00" + n + behind, 21);
            wrong(two + ahead + "000" + n + behind, 21);
            for (String no : new String[] {" ", "+", "-", "/", ":", "a", "."}) {
                wrong(two + ahead + no + n + behind, 21);
                wrong(two + ahead + n + no + behind, 21);
                wrong(two + ahead + no + behind, 21);
            }
        }
        due("two figures are one number", right("w0,42,0;", 1).wall(0, 1), 42);
        due("the first may be 0", right("w0,07,0;", 1).wall(0, 1), 7);
    }

    // "parted by , and a ; behind the last one"
    private static void numbersPartedByCommas() {
        for (String bad : new String[] {"w0,1,0", "w0,1,0,", "w0,1;", "w0;", "w0,1,0,0;", "w0;1,0;", "w0,1;0;", "w0.1,0;", "w0,1.0;", "w0,1,0:", "w0,,1,0;",
            "w0,1,,0;", "w,0,1,0;", "w0 ,1,0;", "w0, 1,0;", "w0,1,0;;", "h0,1,1", "h0,1;", "h0;", "h0,1,1,1;", "h0,1,1,", "h0;1,1;", "h0,1:1;", "s1", "s1,", "s1,1;", "s1:", "s1;;"}) {
            boolean isBehind = bad.endsWith(";;");
            String ahead = "w0,1,0;w0,1,0;";
            wrong(ahead + bad, isBehind ? ahead.length() + bad.length() - 1 : ahead.length());
        }
        right("w0,1,0;w0,1,0;h0,1,1;s1;", 2);
    }

    // "KIND K (0 PLAIN, 1 GROWING, 2 SHY, 3 DOUBLE)"
    private static void kind0To3() {
        for (int k = 0; k < 100; k++) {
            rightOrWrong("", "w" + k + ",5,0;", k <= 3, 1);
            rightOrWrong("s2;w3,5,0;", "w" + k + ",5,0;", k <= 3, 2);
            if (k <= 3) due("K", Due.laid("w" + k + ",5,0;").wall(0, 0), k);
        }
    }

    // "THICK T (1 to 60)"
    private static void thick1To60() {
        for (int t = 0; t < 100; t++) {
            boolean is = t >= 1 && t <= 60;
            for (int k = 0; k < 4; k++) rightOrWrong("", "w" + k + "," + t + ",0;", is, 1);
            if (!is) continue;
            due("T", Due.laid("w0," + t + ",0;").wall(0, 1), t);
            due("thick by T", Due.laid("w0," + t + ",0;").wall(0, 3), t);
        }
    }

    // "LEANS by L (0 to 7)"
    private static void leans0To7() {
        for (int l = 0; l < 100; l++) {
            rightOrWrong("w0,1,7;", "w0,5," + l + ";", l <= 7, 2);
            if (l <= 7) due("L", Due.laid("w0,5," + l + ";").wall(0, 2), l);
        }
    }

    // "5 at most, 0, 1, .. side by side"
    private static void persons5AtMost() {
        StringBuilder text = new StringBuilder();
        for (int persons = 1; persons <= 5; persons++) {
            text.append("w").append(persons % 4).append(",").append(persons).append(",").append(persons).append(";");
            WallTrumpets x = right(text.toString(), persons);
            for (int w = 0; w < persons; w++) {
                due("side by side: K", x.wall(w, 0), (w + 1) % 4);
                due("side by side: T", x.wall(w, 1), w + 1);
                due("side by side: L", x.wall(w, 2), w + 1);
            }
        }
        wrong(text + "w0,1,0;", 35);
        wrong(text + "s1;w0,1,0;", 38);
        wrong(text + "w0,1,0;w0,1,0;", 35);
        right(text + "s1;h4,0,1;", 5);
        right("s1;" + text, 5);
    }

    // "hA,B,S the WALL of A holds up that of B (unlike, told ahead)"
    private static void holdsUnlikeAndToldAhead() {
        for (int persons = 0; persons <= 5; persons++) {
            String ahead = "w0,1,0;".repeat(persons);
            for (int a = 0; a < 8; a++) {
                for (int b = 0; b < 8; b++) {
                    boolean is = a != b && a < persons && b < persons;
                    rightOrWrong(ahead, "h" + a + "," + b + ",1;", is, persons);
                }
            }
        }
        for (int far : new int[] {10, 11, 50, 99}) {
            wrong(FIVE + "h" + far + ",0,1;", 35);
            wrong(FIVE + "h0," + far + ",1;", 35);
        }
        // Told, but behind it.
        wrong("h0,1,1;w0,1,0;w0,1,0;", 0);
        wrong("w0,1,0;h0,1,1;w0,1,0;", 7);
        wrong("w0,1,0;h1,0,1;w0,1,0;", 7);
        right("w0,1,0;w0,1,0;h1,0,1;w0,1,0;", 3);
        // Of a text that was there ahead, nobody is told.
        WallTrumpets x = Due.laid(FIVE);
        Due.rewrite(x, "w0,1,0;h0,4,1;");
        due("told in this text", x.fault(), 7);
    }

    // "by S (1 to 40)"
    private static void holdsBy1To40() {
        for (int s = 0; s < 100; s++) {
            boolean is = s >= 1 && s <= 40;
            rightOrWrong(FIVE, "h0,4," + s + ";", is, 5);
            if (is) due("S", Due.laid(FIVE + "h4,0," + s + ";").holds(4, 0), s);
        }
    }

    // "(told once more: the last one)"
    private static void holdsToldOnceMoreTheLastOne() {
        WallTrumpets x = right(FIVE + "h0,1,40;h1,0,7;h0,1,1;", 5);
        due("the last one", x.holds(0, 1), 1);
        due("the other way round", x.holds(1, 0), 7);
        due("props", x.count(5), 2);
        due("alike", right(FIVE + "h0,1,5;h0,1,5;", 5).count(5), 1);
        due("three times", right(FIVE + "h2,3,5;h2,3,40;h2,3,6;", 5).holds(2, 3), 6);
        wrong(FIVE + "h0,1,5;h0,1,41;", 42);
        StringBuilder all = new StringBuilder(FIVE);
        for (int a = 0; a < 5; a++) {
            for (int b = 0; b < 5; b++) if (a != b) all.append("h").append(a).append(",").append(b).append(",").append(a + b).append(";");
        }
        x = right(all.toString(), 5);
        due("all there can be", x.count(5), 20);
        for (int a = 0; a < 5; a++) {
            for (int b = 0; b < 5; b++) due("all there can be", x.holds(a, b), a == b ? BAD : a + b);
        }
    }

    // "sN there are N (0 to 60) STONES"
    private static void stones0To60() {
        for (int n = 0; n < 100; n++) {
            rightOrWrong("w0,1,0;", "s" + n + ";", n <= 60, 1);
            if (n <= 60) due("N", Due.laid("w0,1,0;s" + n + ";").count(3), n);
        }
    }

    // "(0 without; of several such the last one counts)"
    private static void stones0WithoutAndTheLastOne() {
        due("0 without", right("w0,1,0;", 1).count(3), 0);
        due("the last one", right("s60;w0,1,0;s0;", 1).count(3), 0);
        due("the last one", right("s0;s60;w0,1,0;", 1).count(3), 60);
        due("the last one", right("s5;w0,1,0;s7;s6;", 1).count(3), 6);
        WallTrumpets x = Due.laid("w0,1,0;s60;");
        Due.rewrite(x, "w0,1,0;");
        x.lay();
        due("0 without, whatever was there", x.count(3), 0);
        wrong("w0,1,0;s5;s61;", 10);
    }

    // "FAULT: the place (from 0 on) of the first letter of the first ITEM that is not so"
    private static void faultIsTheFirstLetterOfTheFirstItem() {
        wrong("x", 0);
        wrong("w0,1,0;w0,61,0;w0,1,0;", 7);
        wrong("w0,1,0;w0,61,0;w9,1,0;", 7);
        wrong("w0,1,0;s1;s2;w0,1,8;x", 13);
        String long199 = "w0,10,0;".repeat(5) + "s10;".repeat(39) + "s1;";
        right(long199, 5);
        for (char c : new char[] {'x', 'w', 'h', 's', ';', ' '}) wrong(long199 + c, 199);
        wrong("s".repeat(200), 0);
        wrong("s1;".repeat(66) + "s1", 198);
        wrong("s1;".repeat(66) + "s;", 198);
    }

    // Promise 4: "FAULT. NONE."
    private static void faultOfNone() {
        WallTrumpets x = new WallTrumpets();
        due("an empty text", x.fault(), NONE);
        x.write('w');
        due("a letter", x.fault(), 0);
        x.wipe();
        due("empty again", x.fault(), NONE);
        for (char c : "s1;".toCharArray()) x.write(c);
        due("an item", x.fault(), NONE);
        due("asked again", x.fault(), NONE);
        // What stands as laid does not matter to a text.
        due("persons as laid are not told", Due.written("h0,1,1;").fault(), 0);
    }

    // "LAID is a TEXT without FAULT, of a PERSON at least (NO else"
    private static void laidOfAPersonAtLeast() {
        due("empty", new WallTrumpets().lay(), NO);
        due("stones alone", Due.written("s5;s6;").lay(), NO);
        due("a person", Due.written("w0,1,0;").lay(), 1);
        due("a fault behind a person", Due.written("w0,1,0;s61;").lay(), NO);
        due("a fault ahead of a person", Due.written("s61;w0,1,0;").lay(), NO);
        due("an item without its end", Due.written("w0,1,0;s6").lay(), NO);
    }

    // "at first w0,12,1;..s4;" and promise 1: "As told; THE TEXT is empty."
    private static void laidAtFirst() {
        String[] same = {"text w0,12,1;w1,20,0;w2,8,3;w3,15,2;w0,30,4;h0,1,9;h1,4,12;h4,2,5;h3,4,10;h2,0,6;s4;", "lay", "wipe"};
        Seen.alike("at first", Seen.of(), Seen.of(same));
        due("the text is empty", new WallTrumpets().count(9), 0);
        due("the text is empty", new WallTrumpets().wipe(), 0);
        due("it is no text to lay", new WallTrumpets().lay(), NO);
    }

    // Promise 5: "LAID: how many PERSONS; nothing NOTED, UNDONE, KEPT; THE TEXT stays. NO."
    private static void layForgetsAll() {
        String text = "w0,10,0;".repeat(5) + "s10;".repeat(39) + "s11;";
        String[] filled = Script.and(Script.and(Script.times(9, "round 0"), "blast 2 8", "pass 24", "prop 1 0 40", "use 4", "keep", "keep", "text " + text),
            Script.times(6, "note 9 7 0"));
        WallTrumpets x = Script.after(filled);
        int[] ahead = {5, 24, 1, 0, 1, 6, 6, 8, 2, 200};
        for (int what = 0; what < 10; what++) due("all full: count " + what, x.count(what), ahead[what]);
        due("how many", x.lay(), 5);
        int[] behind = {5, 0, 0, 11, 0, 0, 0, 0, 0, 200};
        for (int what = 0; what < 10; what++) due("laid: count " + what, x.count(what), behind[what]);
        due("nothing undone", x.undo(), NO);
        due("nothing kept", x.back(), NO);
        due("nothing noted", x.forget(), 0);
        due("laid again", x.lay(), 5);
        Seen.alike("as if nothing had been", Seen.of(Script.and(filled, "lay")), Seen.of("text " + text, "lay"));
        Seen.alike("nothing there ahead, too", Seen.of("text w0,1,0;", "lay", "lay"), Seen.of("text w0,1,0;", "lay"));
        x = Due.laid("w3,9,3;");
        due("fewer than there were", x.wall(1, 0), BAD);
        Due.rewrite(x, FIVE);
        due("more than there were", x.lay(), 5);
        due("more than there were", x.wall(4, 1), 1);
    }

    // Promise 3: "THE TEXT is empty: how long it was."
    private static void wipeTellsHowLong() {
        for (int length : new int[] {0, 1, 199, 200, 201}) {
            WallTrumpets x = Due.written("w".repeat(length));
            due("how long", x.wipe(), Math.min(length, 200));
            due("empty", x.count(9), 0);
            due("empty", x.wipe(), 0);
            due("no fault", x.fault(), NONE);
        }
        Seen.alike("only the text", Seen.of("round 0", "keep", "note 1 0 0", "text s1;", "wipe"), Seen.of("round 0", "keep", "note 1 0 0"));
    }

    // "BAD: a number is none that is told (PERSONS, WALLS: such as there are"; promise 6
    private static void wallOfSuchAsThereAre() {
        for (int persons = 1; persons <= 5; persons++) {
            WallTrumpets x = Due.laid("w0,1,0;".repeat(persons));
            for (int w = -3; w < 12; w++) due("wall " + w + " of " + persons, x.wall(w, 1), w >= 0 && w < persons ? 1 : BAD);
            for (int w : new int[] {LEAST, MOST}) due("wall " + w, x.wall(w, 1), BAD);
        }
        WallTrumpets x = Due.laid("w3,9,2;");
        int[] want = {3, 9, 2, 9, 0, 0, 0, 0};
        for (int what = -3; what < 12; what++) due("wall, what " + what, x.wall(0, what), what >= 0 && what < 8 ? want[what] : BAD);
        for (int what : new int[] {LEAST, MOST}) due("wall, what " + what, x.wall(0, what), BAD);
    }

    // Promise 7: "By how much .. (0: not). BAD (alike, too)."
    private static void holdsOfSuchAsThereAre() {
        for (int persons = 1; persons <= 5; persons++) {
            WallTrumpets x = Due.laid("w0,1,0;".repeat(persons));
            for (int a = -2; a < 8; a++) {
                for (int b = -2; b < 8; b++) {
                    boolean is = a >= 0 && b >= 0 && a < persons && b < persons && a != b;
                    due("holds " + a + "," + b + " of " + persons, x.holds(a, b), is ? 0 : BAD);
                }
            }
            for (int no : new int[] {LEAST, MOST}) {
                due("holds " + no, x.holds(no, 0), BAD);
                due("holds " + no, x.holds(0, no), BAD);
                due("holds " + no, x.holds(no, no), BAD);
            }
        }
    }

    // "An object is used for at most 512 calls after it has been made"
    private static void rightUpToTheLastCall() {
        WallTrumpets x = new WallTrumpets();
        for (int i = 0; i < 102; i++) {
            due("round", x.round(0), 1);
            due("order", x.order(-1), NONE);
            due("blast", x.blast(0, 6), 1);
            due("undo", x.undo(), 1);
            due("undo", x.undo(), 0);
        }
        due("the 511th", x.use(4), 0);
        due("the 512th", x.undo(), 0);
    }
}
