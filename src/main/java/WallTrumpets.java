import java.util.Arrays;

/** Towns of people with walls within, and the trumpets blown at them; the document is ../shared/DOC.md. */
public final class WallTrumpets {
    public static final int BAD = -1, NO = -2, FULL = -3, NONE = -4;

    private static final String FIRST_TEXT =
        "w0,12,1;w1,20,0;w2,8,3;w3,15,2;w0,30,4;h0,1,9;h1,4,12;h4,2,5;h3,4,10;h2,0,6;s4;";
    private static final int MOST_LETTERS = 200, MOST_PERSONS = 5, MOST_THICK = 60, MOST_LEAN = 7;
    private static final int MOST_HELD = 40, MOST_STONES = 60, MOST_TRUMPETS = 9, MOST_ROUNDED = 7;
    private static final int MOST_GROWN = 99, MOST_PASSED = 24, MOST_UNDONE = 8, MOST_KEPT = 2;
    private static final int MOST_NOTED = 6, MOST_DAYS = 60, MOST_DRAWN = 9999, DRAW_MODULUS = 65521;
    private static final int GROWING = 1, SHY = 2, DOUBLE = 3;
    private static final int STANDS = 0, INWARD = 1, OUTWARD = 2;
    private static final int BENCH = 3, STEP = 5, HOUSE = 8;
    /** A double wall is blasted twice at most, each other one once. */
    private static final int MOST_BLASTS = 2 * MOST_PERSONS;
    /** More trumpets than any order can need. */
    private static final int ENDLESS = 1000;
    private static final int SEEN_SLOTS = 1024, SEEN_TRIES = 32;
    /** An odd number whose bits are mixed well, to spread marks over the slots. */
    private static final long SPREAD = 0x9E3779B97F4A7C15L;

    private final Text text = new Text();
    private final Plan draft = new Plan();
    private final Plan plan = new Plan();
    private final Town now = new Town(plan);
    private final Town trial = new Town(plan);
    private final Past past = new Past(plan);
    private final Town[] kept = new Town[MOST_KEPT];
    private int keptCount = 0;
    private final Notes notes = new Notes();
    private final OrderSearch search = new OrderSearch(plan);

    public WallTrumpets() {
        for (int i = 0; i < MOST_KEPT; i++) kept[i] = new Town(plan);
        for (int i = 0; i < FIRST_TEXT.length(); i++) text.add(FIRST_TEXT.charAt(i));
        text.readInto(plan);
        now.layOut();
        text.length = 0;
    }

    // ---- towns

    public int write(int letter) {
        if (letter < 32 || letter > 126) return BAD;
        if (text.length >= MOST_LETTERS) return FULL;
        text.add((char) letter);
        return text.length;
    }

    public int wipe() {
        int was = text.length;
        text.length = 0;
        return was;
    }

    public int fault() {
        return text.readInto(draft);
    }

    public int lay() {
        if (text.readInto(draft) != NONE || draft.persons == 0) return NO;
        text.readInto(plan);
        now.layOut();
        past.count = 0;
        keptCount = 0;
        notes.count = 0;
        return plan.persons;
    }

    public int wall(int w, int what) {
        if (isNoWall(w)) return BAD;
        switch (what) {
            case 0: return plan.kind[w];
            case 1: return plan.thick[w];
            case 2: return plan.lean[w];
            case 3: return now.thick[w];
            case 4: return now.stands(w) ? 0 : 1;
            case 5: return now.rounded[w];
            case 6: return now.hurt[w];
            case 7: return plan.kind[w] == DOUBLE && now.fell[w] > 0 ? 1 : 0;
            default: return BAD;
        }
    }

    public int holds(int a, int b) {
        return isNoPair(a, b) ? BAD : now.heldBy(a, b);
    }

    // ---- acts

    public int round(int w) {
        if (isNoWall(w)) return BAD;
        if (!now.stands(w)) return NO;
        if (now.rounded[w] >= MOST_ROUNDED) return FULL;
        past.push(now);
        now.goRound(w);
        return now.rounded[w];
    }

    public int blast(int w, int n) {
        if (isNoWall(w) || isOutside(n, 1, MOST_TRUMPETS)) return BAD;
        if (!now.stands(w)) return NO;
        past.push(now);
        return now.blow(w, n);
    }

    public int pass(int n) {
        if (isOutside(n, 1, MOST_PASSED)) return BAD;
        past.push(now);
        for (int i = 0; i < n; i++) now.dayGoesBy();
        return now.days;
    }

    public int prop(int a, int b, int s) {
        if (isNoPair(a, b) || isOutside(s, 0, MOST_HELD)) return BAD;
        int was = now.heldBy(a, b);
        if (was == s) return NO;
        past.push(now);
        now.setProp(a, b, s);
        return was;
    }

    public int use(int n) {
        if (isOutside(n, 1, MOST_STONES)) return BAD;
        if (now.stones < n) return NO;
        past.push(now);
        now.stones -= n;
        return now.stones;
    }

    public int undo() {
        return past.pop(now) ? past.count : NO;
    }

    // ---- what would be

    public int calls(int w) {
        if (isNoWall(w)) return BAD;
        if (!now.stands(w)) return NO;
        return now.fewestTrumpets(w);
    }

    public int rounds(int w, int n) {
        if (isNoWall(w) || isOutside(n, 1, MOST_TRUMPETS)) return BAD;
        if (!now.stands(w)) return NO;
        trial.copyFrom(now);
        for (int more = 0; more <= MOST_ROUNDED; more++) {
            if (trial.wouldFall(w, n) && trial.leansInward(w)) return more;
            trial.goRound(w);
        }
        return NONE;
    }

    public int key(int what) {
        if (isOutside(what, 0, 1)) return BAD;
        int which = NONE;
        int most = NONE;
        for (int w = 0; w < plan.persons; w++) {
            if (!now.stands(w)) continue;
            int others = othersDownBy(w);
            if (which == NONE || others > most) {
                which = w;
                most = others;
            }
        }
        return what == 0 ? which : most;
    }

    public int order(int k) {
        if (isOutside(k, -1, MOST_BLASTS - 1)) return BAD;
        search.run(now);
        if (search.fewest == ENDLESS) return NONE;
        if (k == -1) return search.fewest;
        return k < search.length ? search.best[k] : NONE;
    }

    public int save(int w, int by) {
        if (isNoPair(w, by)) return BAD;
        if (!now.stands(w) || !now.stands(by)) return NO;
        int holders = now.holdersOf(w);
        // Held up by none, a wall never comes down with another one: all of them taken is enough.
        int best = holders;
        for (int set = 0; set < holders; set++) {
            boolean isFewer = Integer.bitCount(set) < Integer.bitCount(best);
            if (isFewer && (set & ~holders) == 0 && standsWithout(set, w, by)) best = set;
        }
        return best;
    }

    public int built(int what) {
        if (isOutside(what, 0, 1)) return BAD;
        int ways = 0;
        int fewest = NONE;
        for (int houses = 0; houses * HOUSE <= now.stones; houses++) {
            int behindHouses = now.stones - houses * HOUSE;
            for (int steps = 0; steps * STEP <= behindHouses; steps++) {
                int left = behindHouses - steps * STEP;
                if (left % BENCH != 0) continue;
                int all = houses + steps + left / BENCH;
                ways++;
                if (fewest == NONE || all < fewest) fewest = all;
            }
        }
        return what == 0 ? ways : fewest;
    }

    // ---- what was noted

    public int note(int n, int r, int felled) {
        boolean isBad = isOutside(n, 1, MOST_TRUMPETS) || isOutside(r, 0, MOST_ROUNDED);
        if (isBad || isOutside(felled, 0, 1)) return BAD;
        if (notes.count >= MOST_NOTED) return FULL;
        if (notes.isEnded()) return NO;
        notes.add(n, r, felled);
        return notes.count;
    }

    public int forget() {
        int were = notes.count;
        notes.count = 0;
        return were;
    }

    public int thick(int what) {
        if (isOutside(what, 0, 1)) return BAD;
        int many = 0;
        int least = NONE;
        for (int t = MOST_THICK; t >= 1; t--) {
            if (!notes.couldBe(t)) continue;
            many++;
            least = t;
        }
        return what == 0 ? many : least;
    }

    // ---- what fails, years

    public int fail(int w, int n, int x, int part) {
        boolean isBad = isNoWall(w) || isOutside(n, 1, MOST_TRUMPETS);
        if (isBad || isOutside(x, 0, 10) || isOutside(part, 0, 1)) return BAD;
        if (!now.stands(w)) return NO;
        long above = 0;
        long choices = 1;
        for (int sounding = 1; sounding <= n; sounding++) {
            choices = choices * (n - sounding + 1) / sounding;
            if (now.wouldFall(w, sounding)) above += choices * power(10 - x, sounding) * power(x, n - sounding);
        }
        long below = power(10, n);
        long shared = greatestShared(above, below);
        if (shared < 1) return NONE;
        return (int) ((part == 0 ? above : below) / shared);
    }

    public int year(int z, int n, int what) {
        if (isOutside(z, 0, MOST_DRAWN) || isOutside(n, 1, MOST_DAYS) || isOutside(what, 0, 2)) return BAD;
        trial.copyFrom(now);
        for (int k = 0; k < n; k++) {
            drawAhead(z, k);
            trial.dayGoesBy();
        }
        if (what == 0) return trial.countDown();
        return what == 1 ? trial.stones : trial.countHurt();
    }

    public int keep() {
        if (keptCount >= MOST_KEPT) return FULL;
        kept[keptCount].copyFrom(now);
        keptCount++;
        return keptCount;
    }

    public int back() {
        if (keptCount < 1) return NO;
        keptCount--;
        now.copyFrom(kept[keptCount]);
        past.count = 0;
        return keptCount;
    }

    public int count(int what) {
        switch (what) {
            case 0: return plan.persons;
            case 1: return now.days;
            case 2: return now.countDown();
            case 3: return now.stones;
            case 4: return now.countHurt();
            case 5: return now.countProps();
            case 6: return notes.count;
            case 7: return past.count;
            case 8: return keptCount;
            case 9: return text.length;
            default: return BAD;
        }
    }

    // ---- helpers

    private static boolean isOutside(int number, int least, int most) {
        return number < least || number > most;
    }

    private boolean isNoWall(int w) {
        return isOutside(w, 0, plan.persons - 1);
    }

    private boolean isNoPair(int a, int b) {
        return isNoWall(a) || isNoWall(b) || a == b;
    }

    private int othersDownBy(int w) {
        trial.copyFrom(now);
        trial.comeDown(w, INWARD);
        int itself = trial.stands(w) ? 0 : 1;
        return trial.countDown() - now.countDown() - itself;
    }

    private boolean standsWithout(int set, int w, int by) {
        trial.copyFrom(now);
        for (int a = 0; a < plan.persons; a++) {
            if ((set >> a & 1) == 1) trial.setProp(a, w, 0);
        }
        trial.comeDown(by, INWARD);
        return trial.stands(w);
    }

    private void drawAhead(int z, int k) {
        if (plan.persons < 1) return;
        long x = 7919L * z + 6151L * k + 1;
        int draw = (int) (x * x % DRAW_MODULUS);
        int w = draw / 8 % plan.persons;
        if (!trial.stands(w)) return;
        int act = draw % 8;
        if (act <= 3) trial.goRound(w);
        if (act == 4) trial.blow(w, draw / 64 % 9 + 1);
    }

    private static long power(int base, int times) {
        long all = 1;
        for (int i = 0; i < times; i++) all *= base;
        return all;
    }

    private static long greatestShared(long a, long b) {
        // Euclid's steps for numbers up to ten to the ninth end within some fifty.
        for (int i = 0; i < 100 && b != 0; i++) {
            long left = a % b;
            a = b;
            b = left;
        }
        return a;
    }

    /** THE TEXT, and how its items are read. */
    private static final class Text {
        final char[] letters = new char[MOST_LETTERS];
        final int[] numbers = new int[3];
        int length = 0;

        void add(char letter) {
            if (length >= MOST_LETTERS) return;
            letters[length] = letter;
            length++;
        }

        /** FAULT or NONE; the plan then holds all that is told ahead of the fault. */
        int readInto(Plan told) {
            told.clear();
            int at = 0;
            for (int items = 0; items < MOST_LETTERS && at < length; items++) {
                int behind = readItem(at, told);
                if (behind < 0) return at;
                at = behind;
            }
            return NONE;
        }

        /** The place behind the item, or -1 if it is none. */
        private int readItem(int at, Plan told) {
            char letter = letterAt(at);
            int due = letter == 'w' || letter == 'h' ? 3 : letter == 's' ? 1 : 0;
            if (due == 0) return -1;
            int place = at + 1;
            for (int i = 0; i < due; i++) {
                int figures = figuresAt(place);
                if (figures == 0) return -1;
                numbers[i] = numberAt(place, figures);
                place += figures;
                if (letterAt(place) != (i < due - 1 ? ',' : ';')) return -1;
                place++;
            }
            return told.take(letter, numbers[0], numbers[1], numbers[2]) ? place : -1;
        }

        private char letterAt(int place) {
            return place >= 0 && place < length ? letters[place] : 0;
        }

        private boolean isFigure(int place) {
            return letterAt(place) >= '0' && letterAt(place) <= '9';
        }

        private int figuresAt(int place) {
            if (!isFigure(place)) return 0;
            return isFigure(place + 1) ? 2 : 1;
        }

        private int numberAt(int place, int figures) {
            int first = letterAt(place) - '0';
            return figures == 1 ? first : first * 10 + letterAt(place + 1) - '0';
        }
    }

    /** What a text tells: the town as it is when LAID. */
    private static final class Plan {
        int persons = 0;
        int stones = 0;
        final int[] kind = new int[MOST_PERSONS];
        final int[] thick = new int[MOST_PERSONS];
        final int[] lean = new int[MOST_PERSONS];
        final int[] held = new int[MOST_PERSONS * MOST_PERSONS];

        void clear() {
            persons = 0;
            stones = 0;
            Arrays.fill(held, 0);
        }

        /** Takes an item, or tells that its numbers are not so. */
        boolean take(char letter, int a, int b, int c) {
            if (letter == 'w') return takeWall(a, b, c);
            if (letter == 'h') return takeProp(a, b, c);
            if (isOutside(a, 0, MOST_STONES)) return false;
            stones = a;
            return true;
        }

        private boolean takeWall(int k, int t, int l) {
            if (persons >= MOST_PERSONS) return false;
            if (isOutside(k, 0, DOUBLE) || isOutside(t, 1, MOST_THICK) || isOutside(l, 0, MOST_LEAN)) return false;
            kind[persons] = k;
            thick[persons] = t;
            lean[persons] = l;
            persons++;
            return true;
        }

        private boolean takeProp(int a, int b, int s) {
            if (isOutside(a, 0, persons - 1) || isOutside(b, 0, persons - 1) || a == b) return false;
            if (isOutside(s, 1, MOST_HELD)) return false;
            held[a * MOST_PERSONS + b] = s;
            return true;
        }
    }

    /** A town as it stands at one time; callers hand in walls that there are. */
    private static final class Town {
        final Plan plan;
        final int[] thick = new int[MOST_PERSONS];
        final int[] rounded = new int[MOST_PERSONS];
        final int[] hurt = new int[MOST_PERSONS];
        final int[] fell = new int[MOST_PERSONS];
        final int[] held = new int[MOST_PERSONS * MOST_PERSONS];
        int stones = 0;
        int days = 0;

        Town(Plan plan) {
            this.plan = plan;
        }

        void layOut() {
            System.arraycopy(plan.thick, 0, thick, 0, MOST_PERSONS);
            System.arraycopy(plan.held, 0, held, 0, held.length);
            Arrays.fill(rounded, 0);
            Arrays.fill(hurt, 0);
            Arrays.fill(fell, 0);
            stones = plan.stones;
            days = 0;
        }

        void copyFrom(Town other) {
            System.arraycopy(other.thick, 0, thick, 0, MOST_PERSONS);
            System.arraycopy(other.rounded, 0, rounded, 0, MOST_PERSONS);
            System.arraycopy(other.hurt, 0, hurt, 0, MOST_PERSONS);
            System.arraycopy(other.fell, 0, fell, 0, MOST_PERSONS);
            System.arraycopy(other.held, 0, held, 0, held.length);
            stones = other.stones;
            days = other.days;
        }

        boolean stands(int w) {
            return fell[w] < (plan.kind[w] == DOUBLE ? 2 : 1);
        }

        int heldBy(int a, int b) {
            return held[a * MOST_PERSONS + b];
        }

        void setProp(int a, int b, int s) {
            held[a * MOST_PERSONS + b] = s;
        }

        int holdersOf(int w) {
            int bits = 0;
            for (int a = 0; a < plan.persons; a++) {
                if (heldBy(a, w) > 0) bits |= 1 << a;
            }
            return bits;
        }

        void goRound(int w) {
            int more = plan.kind[w] == SHY ? 2 : 1;
            rounded[w] = Math.min(rounded[w] + more, MOST_ROUNDED);
        }

        boolean wouldFall(int w, int trumpets) {
            return trumpets * (rounded[w] + 1) >= thick[w];
        }

        boolean leansInward(int w) {
            return rounded[w] >= plan.lean[w];
        }

        int fewestTrumpets(int w) {
            for (int n = 1; n <= MOST_TRUMPETS; n++) {
                if (wouldFall(w, n)) return n;
            }
            return NONE;
        }

        int blow(int w, int trumpets) {
            if (wouldFall(w, trumpets)) {
                int way = leansInward(w) ? INWARD : OUTWARD;
                comeDown(w, way);
                return way;
            }
            thick[w] = Math.max(thick[w] - trumpets, 1);
            rounded[w] = 0;
            return STANDS;
        }

        void comeDown(int w, int way) {
            fallWithAll(w, way, 0);
        }

        private void fallWithAll(int w, int way, int depth) {
            // Only a wall that is DOWN pulls others along, so a chain is never longer than the town.
            if (depth > MOST_PERSONS) return;
            fell[w]++;
            rounded[w] = 0;
            if (way == INWARD) stones += plan.thick[w];
            if (way == OUTWARD && w + 1 < plan.persons) hurt[w + 1]++;
            if (stands(w)) {
                thick[w] = plan.thick[w] / 2 + 1;
                return;
            }
            thick[w] = 0;
            for (int b = 0; b < plan.persons; b++) {
                if (stands(b)) thick[b] -= heldBy(w, b);
            }
            for (int b = 0; b < plan.persons; b++) {
                // The test is made at b's turn: a fall ahead of it may have brought it down already.
                if (heldBy(w, b) > 0 && stands(b) && thick[b] <= 0) fallWithAll(b, INWARD, depth + 1);
            }
        }

        void dayGoesBy() {
            for (int w = 0; w < plan.persons; w++) {
                if (plan.kind[w] == GROWING && stands(w)) thick[w] = Math.min(thick[w] + 1, MOST_GROWN);
            }
            days++;
        }

        int countDown() {
            int many = 0;
            for (int w = 0; w < plan.persons; w++) {
                if (!stands(w)) many++;
            }
            return many;
        }

        int countHurt() {
            int many = 0;
            for (int w = 0; w < plan.persons; w++) many += hurt[w];
            return many;
        }

        int countProps() {
            int many = 0;
            for (int s : held) {
                if (s > 0) many++;
            }
            return many;
        }
    }

    /** The towns ahead of the last acts, for what is UNDONE. */
    private static final class Past {
        final Town[] towns = new Town[MOST_UNDONE];
        int next = 0;
        int count = 0;

        Past(Plan plan) {
            for (int i = 0; i < MOST_UNDONE; i++) towns[i] = new Town(plan);
        }

        void push(Town now) {
            towns[next].copyFrom(now);
            next = (next + 1) % MOST_UNDONE;
            count = Math.min(count + 1, MOST_UNDONE);
        }

        boolean pop(Town now) {
            if (count < 1) return false;
            next = (next + MOST_UNDONE - 1) % MOST_UNDONE;
            count--;
            now.copyFrom(towns[next]);
            return true;
        }
    }

    /** What is NOTED. */
    private static final class Notes {
        final int[] trumpets = new int[MOST_NOTED];
        final int[] rounded = new int[MOST_NOTED];
        final int[] felled = new int[MOST_NOTED];
        int count = 0;

        boolean isEnded() {
            return count > 0 && felled[count - 1] == 1;
        }

        void add(int n, int r, int f) {
            if (count >= MOST_NOTED) return;
            trumpets[count] = n;
            rounded[count] = r;
            felled[count] = f;
            count++;
        }

        boolean couldBe(int laid) {
            int left = laid;
            for (int i = 0; i < count; i++) {
                int fell = trumpets[i] * (rounded[i] + 1) >= left ? 1 : 0;
                if (fell != felled[i]) return false;
                left = Math.max(left - trumpets[i], 1);
            }
            return true;
        }
    }

    /** ORDER: walks through all orders, the lowest walls ahead, so that the first of equal ones is kept. */
    private static final class OrderSearch {
        final Plan plan;
        final Town[] towns = new Town[MOST_BLASTS + 1];
        final int[] path = new int[MOST_BLASTS];
        final int[] best = new int[MOST_BLASTS];
        final long[] seen = new long[SEEN_SLOTS];
        final int[] seenBy = new int[SEEN_SLOTS];
        int length = 0;
        int fewest = ENDLESS;

        OrderSearch(Plan plan) {
            this.plan = plan;
            for (int i = 0; i <= MOST_BLASTS; i++) towns[i] = new Town(plan);
        }

        void run(Town now) {
            length = 0;
            fewest = ENDLESS;
            Arrays.fill(seen, 0);
            towns[0].copyFrom(now);
            goOn(0, 0);
        }

        private void goOn(int depth, int trumpets) {
            Town town = towns[depth];
            if (town.countDown() == plan.persons) {
                keepBest(depth, trumpets);
                return;
            }
            if (depth >= MOST_BLASTS || wasSeen(markOf(town), trumpets)) return;
            for (int w = 0; w < plan.persons; w++) {
                if (!town.stands(w)) continue;
                int n = town.fewestTrumpets(w);
                if (n == NONE || trumpets + n >= fewest) continue;
                path[depth] = w;
                towns[depth + 1].copyFrom(town);
                towns[depth + 1].blow(w, n);
                goOn(depth + 1, trumpets + n);
            }
        }

        private void keepBest(int depth, int trumpets) {
            if (trumpets >= fewest) return;
            fewest = trumpets;
            length = depth;
            System.arraycopy(path, 0, best, 0, depth);
        }

        /** How often each person is rounded need not be told: as now, or 0 behind a fall. */
        private long markOf(Town town) {
            long mark = 0;
            for (int w = 0; w < plan.persons; w++) {
                mark = mark << 9 | town.fell[w] << 7 | town.thick[w];
            }
            return mark;
        }

        /**
         * Whether an order ahead came to the same walls by as few trumpets: what follows can then not be better.
         * A mark that finds no slot is only walked through again.
         */
        private boolean wasSeen(long mark, int trumpets) {
            int slot = (int) (mark * SPREAD >>> 40);
            for (int i = 0; i < SEEN_TRIES; i++) {
                int at = (slot + i) % SEEN_SLOTS;
                if (seen[at] == mark && seenBy[at] <= trumpets) return true;
                if (seen[at] != mark && seen[at] != 0) continue;
                seen[at] = mark;
                seenBy[at] = trumpets;
                return false;
            }
            return false;
        }
    }
}
