/** Tells each answer that is not as due, and how the program ends by it. */
final class Due {
    private static int wrong = 0;

    private Due() { }

    static void is(String call, int got, int want) {
        if (got == want) return;
        wrong++;
        if (wrong <= 50) System.out.println(call + " answered " + got + ", due is " + want);
    }

    static void isTrue(String what, boolean holds) {
        is(what, holds ? 1 : 0, 1);
    }

    static void end() {
        System.out.println(wrong == 0 ? "all answers are as due" : wrong + " answers are not as due");
        if (wrong != 0) System.exit(1);
    }

    /** A new object whose text is the one that is handed in. */
    static WallTrumpets written(String text) {
        WallTrumpets x = new WallTrumpets();
        for (int i = 0; i < text.length(); i++) x.write(text.charAt(i));
        return x;
    }

    /** A new object whose town is laid by the text. */
    static WallTrumpets laid(String text) {
        WallTrumpets x = written(text);
        if (x.lay() < 1) isTrue("laid: " + text, false);
        return x;
    }

    static void rewrite(WallTrumpets x, String text) {
        x.wipe();
        for (int i = 0; i < text.length(); i++) x.write(text.charAt(i));
    }
}
