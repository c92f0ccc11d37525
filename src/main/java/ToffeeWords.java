/**
 * A fairground valley whose words are toffee apples: they are dipped, they set, they are bitten
 * down to what was meant. Every call answers a number, none ever throws, and all rows are made
 * with the object, so that no call makes anything new.
 */
public final class ToffeeWords {
    public static final int NONE = -1, BAD = -2, NO = -3, FULL = -4;

    private static final int APPLES = 7;
    private static final int BITERS = 4;
    private static final int KINDS = 6;
    private static final int DAMPS = 6;
    private static final int LEFTS = 5;
    private static final int NOTES = 6;
    private static final int MARKS = 6;
    private static final int STEPS = 8;
    private static final int IMAGES = 2;
    private static final int BYTES = 150;

    private static final int LAST_DAY = 999;
    private static final int MOST_TOFFEE = 30;
    private static final int MOST_TEETH = 9;
    private static final int MOST_DAMP = 4;
    private static final int MOST_AGE = 99;
    private static final int MOST_AHEAD = 60;

    private static final int NOT_OUT = 0;
    private static final int KEPT = 1;
    private static final int BROKEN = 2;

    private static final int NOT_SO_MANY = -5;
    private static final int NO_ROW = -6;
    private static final int BAD_AS_TEN = -10;

    private Valley here;
    private Valley spare;
    private final Valley[] images;
    private final boolean[] imageIsKept;
    private final Text text;
    private final Teller teller;
    private final Moment dream;
    private final Few fewest;
    private final Feast table;
    private final Pair between;
    private final Guess guess;
    private long above;
    private long below;
    private int refusedAsBad;
    private int refusedAsNo;
    private int refusedAsFull;

    public ToffeeWords() {
        here = new Valley();
        spare = new Valley();
        images = new Valley[IMAGES];
        for (int i = 0; i < IMAGES; i++) {
            images[i] = new Valley();
        }
        imageIsKept = new boolean[IMAGES];
        teller = new Teller();
        text = teller.text;
        dream = new Moment();
        fewest = new Few();
        table = new Feast();
        between = new Pair();
        guess = new Guess();
        above = 0;
        below = 1;
    }

    // ---- a valley

    public int valley() {
        int were = here.apples;
        here.startAnew();
        return were;
    }

    public int damp(int d, int w) {
        if (!within(d, 0, DAMPS - 1) || !within(w, 0, MOST_DAMP)) {
            return refuseBad();
        }
        int was = here.damps[d];
        here.damps[d] = w;
        here.steps = 0;
        return was;
    }

    public int apple(int kind, int toffee, int term) {
        if (!within(kind, 0, KINDS - 1) || !within(toffee, 1, MOST_TOFFEE) || !within(term, 0, MOST_AGE)) {
            return refuseBad();
        }
        if (here.apples >= APPLES) {
            return refuseFull();
        }
        here.steps = 0;
        return here.addApple(kind, toffee, term);
    }

    public int biter(int kind, int teeth) {
        if (!within(kind, 0, KINDS - 1) || !within(teeth, 1, MOST_TEETH)) {
            return refuseBad();
        }
        if (here.biters >= BITERS) {
            return refuseFull();
        }
        here.steps = 0;
        return here.addBiter(kind, teeth);
    }

    public int type(int c) {
        if (!within(c, 0, 127)) {
            return refuseBad();
        }
        if (text.length >= BYTES) {
            return refuseFull();
        }
        return text.addByte(c);
    }

    public int clear() {
        int had = text.length;
        text.length = 0;
        return had;
    }

    public int read() {
        int items = teller.tell(spare);
        if (items > 0) {
            Valley old = here;
            here = spare;
            spare = old;
        }
        return items;
    }

    // ---- days

    public int days(int n) {
        if (!within(n, 1, MOST_AHEAD)) {
            return refuseBad();
        }
        // On the last DAY none goes by, so there is none that could be undone.
        if (here.today.day < LAST_DAY) {
            here.remember();
            here.passDays(n);
        }
        return here.today.fates(here.apples, NOT_OUT);
    }

    public int bites(int b, int p) {
        if (!here.hasBiter(b) || !here.hasApple(p)) {
            return refuseBad();
        }
        if (here.isOut(p)) {
            return refuseNo();
        }
        here.remember();
        return here.bite(here.today, b, p);
    }

    public int dips(int p, int n) {
        if (!here.hasApple(p) || !within(n, 1, 9)) {
            return refuseBad();
        }
        if (here.isOut(p)) {
            return refuseNo();
        }
        here.remember();
        return here.dip(p, n);
    }

    public int undo() {
        if (here.steps < 1) {
            return refuseNo();
        }
        here.stepBack();
        return here.today.day;
    }

    public int of(int p, int what) {
        if (!here.hasApple(p) || !within(what, 0, 5)) {
            return refuseBad();
        }
        return here.tellApple(p, what);
    }

    public int about(int b, int what) {
        if (!here.hasBiter(b) || !within(what, 0, 1)) {
            return refuseBad();
        }
        return what == 0 ? here.nature[b] : here.teeth[b];
    }

    // ---- how hard

    public int hard(int p, int m) {
        if (!here.hasApple(p) || !within(m, 0, MOST_AHEAD)) {
            return refuseBad();
        }
        return here.hardBehind(p, m);
    }

    public int takes(int b, int p) {
        if (!here.hasBiter(b) || !here.hasApple(p)) {
            return refuseBad();
        }
        return here.comesOffNow(b, p);
    }

    public int stuck(int p) {
        if (!here.hasApple(p)) {
            return refuseBad();
        }
        int bits = 0;
        for (int b = 0; b < here.biters; b++) {
            if (here.comesOffNow(b, p) == 0) {
                bits |= 1 << b;
            }
        }
        return bits;
    }

    public int when(int b, int p) {
        if (!here.hasBiter(b) || !here.hasApple(p)) {
            return refuseBad();
        }
        if (here.isOut(p)) {
            return NONE;
        }
        for (int m = 0; m <= MOST_AHEAD; m++) {
            if (here.takesOff(b, here.hardBehind(p, m)) > 0) {
                return m;
            }
        }
        return NONE;
    }

    public int few(int p, int k) {
        if (!here.hasApple(p) || k < NONE) {
            return refuseBadAsTen();
        }
        int bites = fewest.bitesFor(here, p);
        if (bites == NONE) {
            return NO_ROW;
        }
        if (k == NONE) {
            return bites;
        }
        return k < bites ? fewest.biterAt(here, p, k) : NOT_SO_MANY;
    }

    public int feast(int b) {
        if (b != NONE && !here.hasBiter(b)) {
            return refuseBadAsTen();
        }
        table.lay(here);
        return b == NONE ? table.most : table.best[b];
    }

    // ---- how much was on it

    public int left(int p, int b, int w, int a, int x) {
        if (!here.hasApple(p) || !here.hasBiter(b) || !within(w, 0, MOST_DAMP)
                || !within(a, 0, MOST_AGE) || !within(x, 0, MOST_TOFFEE)) {
            return refuseBad();
        }
        if (here.lefts.isFull()) {
            return refuseFull();
        }
        return here.lefts.add(p, b, w, a, x);
    }

    public int on(int p, int what) {
        if (!here.hasApple(p) || !within(what, 0, 2)) {
            return refuseBad();
        }
        return guess.toffeeAhead(here, p, what);
    }

    public int note(int p, int t, int a, int w, int x) {
        if (!here.hasApple(p) || !within(t, 1, MOST_TOFFEE) || !within(a, 0, MOST_AGE)
                || !within(w, 0, MOST_DAMP) || !within(x, 0, 30)) {
            return refuseBad();
        }
        if (here.notes.isFull()) {
            return refuseFull();
        }
        return here.notes.add(p, t, a, w, x);
    }

    public int mark(int b, int teeth, int h, int x) {
        if (!here.hasBiter(b) || !within(teeth, 1, MOST_TEETH) || !within(h, 0, 30) || !within(x, 0, 40)) {
            return refuseBad();
        }
        if (here.marks.isFull()) {
            return refuseFull();
        }
        return here.marks.add(b, teeth, h, x, 0);
    }

    public int forget(int what) {
        switch (what) {
            case 0:
                return here.lefts.empty();
            case 1:
                return here.notes.empty();
            case 2:
                return here.marks.empty();
            default:
                return refuseBad();
        }
    }

    public int is(int p) {
        if (!here.hasApple(p)) {
            return refuseBad();
        }
        return guess.appleKinds(here, p);
    }

    public int look(int p) {
        if (!here.hasApple(p)) {
            return refuseBad();
        }
        return guess.bestLook(here, p);
    }

    public int kinds(int b) {
        if (!here.hasBiter(b)) {
            return refuseBad();
        }
        return guess.biterKinds(here, b);
    }

    public int ask(int b) {
        if (!here.hasBiter(b)) {
            return refuseBad();
        }
        return guess.bestBite(here, b);
    }

    public int pair(int a, int b, int p, int k) {
        if (!here.hasBiter(a) || !here.hasBiter(b) || a == b || !here.hasApple(p) || k < NONE) {
            return refuseBadAsTen();
        }
        between.weigh(here, a, b, p);
        if (k == NONE) {
            return between.count;
        }
        return k < between.count ? between.resting[k] : NOT_SO_MANY;
    }

    public int wasps(int c) {
        if (!within(c, 0, 10)) {
            return refuseBad();
        }
        long tenths = 0;
        for (int p = 0; p < here.apples; p++) {
            if (!here.isOut(p)) {
                tenths += here.robbedTenths(p, c);
            }
        }
        long shared = commonDivisor(tenths, 10);
        above = tenths / shared;
        below = 10 / shared;
        return 1;
    }

    public int augusts(int seed, int n) {
        if (!within(seed, 0, 999999) || !within(n, 0, MOST_AHEAD)) {
            return refuseBad();
        }
        dream.takeOver(here.today);
        long x = seed;
        for (int i = 0; i < n; i++) {
            x = (x * 1103515245L + 12345L) % 2147483648L;
            int b = (int) (x / 65536L % 4L);
            int p = (int) (x / 1048576L % 7L);
            if (here.hasBiter(b) && here.hasApple(p)) {
                here.bite(dream, b, p);
            }
            dream.passDay(here.apples);
        }
        return dream.fates(here.apples, KEPT);
    }

    // ---- what there is

    public long part(int what) {
        if (!within(what, 0, 1)) {
            return refuseBad();
        }
        return what == 0 ? above : below;
    }

    public int image(int i) {
        if (!within(i, 0, IMAGES - 1)) {
            return refuseBad();
        }
        images[i].takeOver(here);
        imageIsKept[i] = true;
        return 1;
    }

    public int from(int i) {
        if (!within(i, 0, IMAGES - 1)) {
            return refuseBad();
        }
        if (!imageIsKept[i]) {
            return refuseNo();
        }
        here.takeOver(images[i]);
        return 1;
    }

    public int status(int what) {
        switch (what) {
            case 0:
                return refusedAsBad;
            case 1:
                return refusedAsNo;
            case 2:
                return refusedAsFull;
            default:
                refuseBad();
                return -1;
        }
    }

    public int count(int what) {
        if (!within(what, 0, 11)) {
            return refuseBad();
        }
        return what == 11 ? text.length : here.howMany(what);
    }

    public long digest() {
        long h = 1657;
        for (int what = 0; what < 11; what++) {
            h = 31 * h + here.howMany(what);
        }
        h = 31 * h + text.length;
        h = here.mixInto(h);
        h = 31 * h + above;
        return 31 * h + below;
    }

    // ---- refusals and small sums

    private int refuseBad() {
        refusedAsBad++;
        return BAD;
    }

    private int refuseBadAsTen() {
        refusedAsBad++;
        return BAD_AS_TEN;
    }

    private int refuseNo() {
        refusedAsNo++;
        return NO;
    }

    private int refuseFull() {
        refusedAsFull++;
        return FULL;
    }

    private static boolean within(int number, int least, int most) {
        return number >= least && number <= most;
    }

    /** Of a number that is 0 or more and one that is 1 or more: 1 or more. */
    private static long commonDivisor(long a, long b) {
        long big = b;
        long small = a;
        for (int i = 0; i < 100 && small > 0; i++) {
            long rest = big % small;
            big = small;
            small = rest;
        }
        return Math.max(1L, big);
    }

    /** How HARD each KIND of APPLE is and what each KIND of BITER takes off: each by the one it is under. */
    private static final class Kind {
        private static int hardness(int kind, int t, int a, int w) {
            int red = Math.max(0, Math.min(9, t) - w);
            int brown = red + Math.min(6, a / 4);
            int green = Math.max(0, red - a / 3);
            switch (kind) {
                case 0:
                    return red;
                case 1:
                    return brown;
                case 2:
                    return green;
                case 3:
                    return green / 2;
                case 4:
                    return brown + 5;
                default:
                    return Math.min(20, 2 * brown);
            }
        }

        private static int strength(int kind, int b, int h) {
            int plain = Math.max(0, b - h);
            int child = Math.max(1, plain);
            int bride = plain >= 1 ? plain + 1 : 0;
            switch (kind) {
                case 0:
                    return plain;
                case 1:
                    return plain / 2;
                case 2:
                    return child;
                case 3:
                    return h <= 2 ? child + 2 : child;
                case 4:
                    return bride;
                default:
                    return 2 * bride;
            }
        }
    }

    /** What UNDO brings back: all that DAYS, BITES and DIPPINGS change. */
    private static final class Moment {
        private int day;
        private final int[] toffee = new int[APPLES];
        private final int[] age = new int[APPLES];
        private final int[] fate = new int[APPLES];

        private void takeOver(Moment other) {
            day = other.day;
            System.arraycopy(other.toffee, 0, toffee, 0, APPLES);
            System.arraycopy(other.age, 0, age, 0, APPLES);
            System.arraycopy(other.fate, 0, fate, 0, APPLES);
        }

        private void passDay(int apples) {
            for (int p = 0; p < apples && p < APPLES; p++) {
                if (fate[p] == NOT_OUT) {
                    age[p]++;
                }
            }
            day++;
        }

        private int fates(int apples, int such) {
            int sum = 0;
            for (int p = 0; p < apples && p < APPLES; p++) {
                if (fate[p] == such) {
                    sum++;
                }
            }
            return sum;
        }

        private int toffeeOnAll(int apples) {
            int sum = 0;
            for (int p = 0; p < apples && p < APPLES; p++) {
                sum += toffee[p];
            }
            return sum;
        }
    }

    /** Rows of up to five numbers, as they come: LEFT ones, NOTES, MARKS. */
    private static final class Rows {
        private static final int WIDEST = 5;
        private static final int MOST = 6;

        private final int width;
        private final int limit;
        private final int[] cells = new int[WIDEST * MOST];
        private int count;

        private Rows(int width, int limit) {
            this.width = Math.min(WIDEST, width);
            this.limit = Math.min(MOST, limit);
        }

        private boolean isFull() {
            return count >= limit;
        }

        private int add(int first, int second, int third, int fourth, int fifth) {
            if (isFull()) {
                return count;
            }
            int at = count * WIDEST;
            cells[at] = first;
            cells[at + 1] = second;
            cells[at + 2] = third;
            cells[at + 3] = fourth;
            cells[at + 4] = fifth;
            count++;
            return count;
        }

        private int cell(int row, int column) {
            return within(row, 0, MOST - 1) && within(column, 0, WIDEST - 1) ? cells[row * WIDEST + column] : 0;
        }

        private int empty() {
            int were = count;
            count = 0;
            return were;
        }

        private void takeOver(Rows other) {
            count = other.count;
            System.arraycopy(other.cells, 0, cells, 0, WIDEST * MOST);
        }

        private long mixRows(long start) {
            long h = start;
            for (int row = 0; row < count; row++) {
                for (int column = 0; column < width; column++) {
                    h = 31 * h + cell(row, column);
                }
            }
            return h;
        }
    }

    /** All that an IMAGE keeps. */
    private static final class Valley {
        private final int[] damps = new int[DAMPS];
        private final int[] kind = new int[APPLES];
        private final int[] term = new int[APPLES];
        private final int[] nature = new int[BITERS];
        private final int[] teeth = new int[BITERS];
        private final Moment today = new Moment();
        private final Moment[] past = new Moment[STEPS];
        private final Rows lefts = new Rows(5, LEFTS);
        private final Rows notes = new Rows(5, NOTES);
        private final Rows marks = new Rows(4, MARKS);
        private int apples;
        private int biters;
        private int steps;

        private Valley() {
            for (int i = 0; i < STEPS; i++) {
                past[i] = new Moment();
            }
        }

        private void startAnew() {
            for (int d = 0; d < DAMPS; d++) {
                damps[d] = 0;
            }
            apples = 0;
            biters = 0;
            steps = 0;
            today.day = 0;
            lefts.empty();
            notes.empty();
            marks.empty();
        }

        private void takeOver(Valley other) {
            System.arraycopy(other.damps, 0, damps, 0, DAMPS);
            System.arraycopy(other.kind, 0, kind, 0, APPLES);
            System.arraycopy(other.term, 0, term, 0, APPLES);
            System.arraycopy(other.nature, 0, nature, 0, BITERS);
            System.arraycopy(other.teeth, 0, teeth, 0, BITERS);
            today.takeOver(other.today);
            for (int i = 0; i < STEPS; i++) {
                past[i].takeOver(other.past[i]);
            }
            lefts.takeOver(other.lefts);
            notes.takeOver(other.notes);
            marks.takeOver(other.marks);
            apples = other.apples;
            biters = other.biters;
            steps = other.steps;
        }

        private boolean hasApple(int p) {
            return p >= 0 && p < apples && p < APPLES;
        }

        private boolean hasBiter(int b) {
            return b >= 0 && b < biters && b < BITERS;
        }

        private boolean isOut(int p) {
            return today.fate[p] != NOT_OUT;
        }

        private int addApple(int itsKind, int itsToffee, int itsTerm) {
            int p = apples;
            kind[p] = itsKind;
            term[p] = itsTerm;
            today.toffee[p] = itsToffee;
            today.age[p] = 0;
            today.fate[p] = NOT_OUT;
            apples++;
            return p;
        }

        private int addBiter(int itsKind, int itsTeeth) {
            int b = biters;
            nature[b] = itsKind;
            teeth[b] = itsTeeth;
            biters++;
            return b;
        }

        private void remember() {
            if (steps >= STEPS) {
                forgetFirstStep();
            }
            past[steps].takeOver(today);
            steps++;
        }

        /** The forgotten Moment goes to the end, to be written over there: none is ever made anew. */
        private void forgetFirstStep() {
            Moment first = past[0];
            for (int i = 1; i < STEPS; i++) {
                past[i - 1] = past[i];
            }
            past[STEPS - 1] = first;
            steps = STEPS - 1;
        }

        private void stepBack() {
            steps--;
            today.takeOver(past[steps]);
        }

        private void passDays(int n) {
            for (int i = 0; i < n && today.day < LAST_DAY; i++) {
                today.passDay(apples);
            }
        }

        private int dampOn(int day) {
            return damps[Math.floorMod(day, DAMPS)];
        }

        private int hardNowWith(int p, int toffee) {
            return Kind.hardness(kind[p], toffee, today.age[p], dampOn(today.day));
        }

        private int hardBehind(int p, int m) {
            int aged = isOut(p) ? 0 : m;
            return Kind.hardness(kind[p], today.toffee[p], today.age[p] + aged, dampOn(today.day + m));
        }

        /** What TEETH do to what is so HARD, however much is on. */
        private int takesOff(int b, int h) {
            return Kind.strength(nature[b], teeth[b], h);
        }

        /** What a bite takes off then, if so much TOFFEE is on. */
        private int comesOff(Moment then, int b, int p, int toffee) {
            int h = Kind.hardness(kind[p], toffee, then.age[p], dampOn(then.day));
            return Math.min(toffee, Kind.strength(nature[b], teeth[b], h));
        }

        private int comesOffNow(int b, int p) {
            return comesOff(today, b, p, today.toffee[p]);
        }

        private int bite(Moment then, int b, int p) {
            if (then.fate[p] != NOT_OUT) {
                return 0;
            }
            int off = comesOff(then, b, p, then.toffee[p]);
            then.toffee[p] -= off;
            if (then.toffee[p] == 0) {
                then.fate[p] = then.age[p] >= term[p] ? KEPT : BROKEN;
            }
            return off;
        }

        private int dip(int p, int n) {
            today.toffee[p] = Math.min(MOST_TOFFEE, today.toffee[p] + n);
            return today.toffee[p];
        }

        private int robbedTenths(int p, int c) {
            int toffee = today.toffee[p];
            int robbed = toffee > 1 ? hardNowWith(p, toffee - 1) : 0;
            return (10 - c) * hardNowWith(p, toffee) + c * robbed;
        }

        private int tellApple(int p, int what) {
            switch (what) {
                case 0:
                    return kind[p];
                case 1:
                    return today.toffee[p];
                case 2:
                    return term[p];
                case 3:
                    return today.age[p];
                case 4:
                    return today.fate[p];
                default:
                    return hardBehind(p, 0);
            }
        }

        private int howMany(int what) {
            switch (what) {
                case 0:
                    return apples;
                case 1:
                    return biters;
                case 2:
                    return today.day;
                case 3:
                    return today.fates(apples, NOT_OUT);
                case 4:
                    return today.fates(apples, KEPT);
                case 5:
                    return today.fates(apples, BROKEN);
                case 6:
                    return today.toffeeOnAll(apples);
                case 7:
                    return lefts.count;
                case 8:
                    return notes.count;
                case 9:
                    return marks.count;
                default:
                    return steps;
            }
        }

        private long mixInto(long start) {
            long h = start;
            for (int d = 0; d < DAMPS; d++) {
                h = 31 * h + damps[d];
            }
            for (int p = 0; p < apples; p++) {
                for (int what = 0; what < 5; what++) {
                    h = 31 * h + tellApple(p, what);
                }
            }
            for (int b = 0; b < biters; b++) {
                h = 31 * h + nature[b];
                h = 31 * h + teeth[b];
            }
            h = lefts.mixRows(h);
            h = notes.mixRows(h);
            return marks.mixRows(h);
        }
    }

    /** THE TEXT and its TOKENS; the last of these is its END, which begins at its length. */
    private static final class Text {
        private static final int END = 0;
        private static final int STOP = 1;
        private static final int NUMBER = 2;
        private static final int STRANGE = 3;
        private static final int VALLEY = 4;
        private static final int DAMP = 5;
        private static final int APPLE = 6;
        private static final int BITER = 7;
        private static final int BITE = 8;
        private static final int DIP = 9;
        private static final int DAYS = 10;

        private final int[] bytes = new int[BYTES];
        private final int[] sorts = new int[BYTES + 1];
        private final int[] starts = new int[BYTES + 1];
        private final int[] values = new int[BYTES + 1];
        private int length;
        private int tokens;

        private int addByte(int c) {
            if (length < BYTES) {
                bytes[length] = c;
                length++;
            }
            return length;
        }

        private void scan() {
            tokens = 0;
            int at = 0;
            for (int i = 0; i < BYTES && at < length; i++) {
                at = bytes[at] == ' ' ? at + 1 : scanToken(at);
            }
            addToken(END, length, 0);
        }

        /** Answers where the TOKEN that begins there has ended, always further on. */
        private int scanToken(int from) {
            int c = bytes[from];
            int to = from + 1;
            if (isLetter(c)) {
                while (to < length && isLetter(bytes[to])) {
                    to++;
                }
                addToken(wordThere(from, to), from, 0);
            } else if (isFigure(c)) {
                while (to < length && isFigure(bytes[to])) {
                    to++;
                }
                int value = to - from == 1 ? c - '0' : (c - '0') * 10 + bytes[to - 1] - '0';
                addToken(to - from <= 2 ? NUMBER : STRANGE, from, value);
            } else {
                addToken(c == ';' ? STOP : STRANGE, from, 0);
            }
            return to;
        }

        private void addToken(int sort, int start, int value) {
            if (tokens <= BYTES) {
                sorts[tokens] = sort;
                starts[tokens] = start;
                values[tokens] = value;
                tokens++;
            }
        }

        private int wordThere(int from, int to) {
            if (isThere("valley", from, to)) {
                return VALLEY;
            }
            if (isThere("damp", from, to)) {
                return DAMP;
            }
            if (isThere("apple", from, to)) {
                return APPLE;
            }
            if (isThere("biter", from, to)) {
                return BITER;
            }
            if (isThere("bite", from, to)) {
                return BITE;
            }
            if (isThere("dip", from, to)) {
                return DIP;
            }
            return isThere("days", from, to) ? DAYS : STRANGE;
        }

        private boolean isThere(String word, int from, int to) {
            if (to - from != word.length()) {
                return false;
            }
            for (int i = 0; i < word.length(); i++) {
                if (bytes[from + i] != word.charAt(i)) {
                    return false;
                }
            }
            return true;
        }

        private static boolean isLetter(int c) {
            return c >= 'a' && c <= 'z';
        }

        private static boolean isFigure(int c) {
            return c >= '0' && c <= '9';
        }
    }

    /** Tells the ITEMS of THE TEXT into a spare VALLEY, so that a FAULT spoils nothing. */
    private static final class Teller {
        private final Text text = new Text();
        private final int[] given = new int[3];
        private int at;

        /** How many ITEMS there are, 1 at least; or -10 less the FAULT, the start of the TOKEN that it stays at. */
        private int tell(Valley v) {
            text.scan();
            v.startAnew();
            at = 0;
            if (sort() != Text.VALLEY) {
                return fault();
            }
            goOn();
            if (!takeStop()) {
                return fault();
            }
            int items = 1;
            for (int i = 0; i < BYTES && sort() != Text.END; i++) {
                if (!tellItem(v)) {
                    return fault();
                }
                items++;
            }
            return items;
        }

        private boolean tellItem(Valley v) {
            switch (sort()) {
                case Text.DAMP:
                    return tellDamp(v);
                case Text.APPLE:
                    return v.apples < APPLES && tellNewApple(v);
                case Text.BITER:
                    return v.biters < BITERS && tellNewBiter(v);
                case Text.BITE:
                    return tellBite(v);
                case Text.DIP:
                    return tellDip(v);
                case Text.DAYS:
                    return tellDays(v);
                default:
                    return false;
            }
        }

        private boolean tellDamp(Valley v) {
            goOn();
            for (int d = 0; d < DAMPS && (d == 0 || sort() == Text.NUMBER); d++) {
                if (!takeNumber(0, 0, MOST_DAMP)) {
                    return false;
                }
                v.damps[d] = given[0];
            }
            return takeStop();
        }

        private boolean tellNewApple(Valley v) {
            goOn();
            if (!takeNumber(0, 0, KINDS - 1) || !takeNumber(1, 1, MOST_TOFFEE)
                    || !takeNumber(2, 0, MOST_AGE) || !takeStop()) {
                return false;
            }
            v.addApple(given[0], given[1], given[2]);
            return true;
        }

        private boolean tellNewBiter(Valley v) {
            goOn();
            if (!takeNumber(0, 0, KINDS - 1) || !takeNumber(1, 1, MOST_TEETH) || !takeStop()) {
                return false;
            }
            v.addBiter(given[0], given[1]);
            return true;
        }

        private boolean tellBite(Valley v) {
            goOn();
            if (!takeNumber(0, 0, v.biters - 1) || !takeWholeApple(1, v) || !takeStop()) {
                return false;
            }
            v.bite(v.today, given[0], given[1]);
            return true;
        }

        private boolean tellDip(Valley v) {
            goOn();
            if (!takeWholeApple(0, v) || !takeNumber(1, 1, 9) || !takeStop()) {
                return false;
            }
            v.dip(given[0], given[1]);
            return true;
        }

        private boolean tellDays(Valley v) {
            goOn();
            if (!takeNumber(0, 1, 99) || !takeStop()) {
                return false;
            }
            v.passDays(given[0]);
            return true;
        }

        private boolean takeNumber(int slot, int least, int most) {
            if (sort() != Text.NUMBER || !within(value(), least, most)) {
                return false;
            }
            given[slot] = value();
            goOn();
            return true;
        }

        /** An APPLE that is there and not OUT. */
        private boolean takeWholeApple(int slot, Valley v) {
            return v.hasApple(value()) && !v.isOut(value()) && takeNumber(slot, 0, APPLES - 1);
        }

        private boolean takeStop() {
            if (sort() != Text.STOP) {
                return false;
            }
            goOn();
            return true;
        }

        private int sort() {
            return text.sorts[at];
        }

        private int value() {
            return text.values[at];
        }

        private int fault() {
            return -10 - text.starts[at];
        }

        private void goOn() {
            if (at < text.tokens - 1) {
                at++;
            }
        }
    }

    /** The fewest bites by which an APPLE is OUT today, for all that may be on it yet. */
    private static final class Few {
        private static final int NEVER = 99;

        private final int[] bites = new int[MOST_TOFFEE + 1];

        private int bitesFor(Valley v, int p) {
            int on = Math.min(MOST_TOFFEE, v.today.toffee[p]);
            bites[0] = 0;
            for (int t = 1; t <= on; t++) {
                bites[t] = NEVER;
                for (int b = 0; b < v.biters; b++) {
                    int off = v.comesOff(v.today, b, p, t);
                    if (off > 0 && bites[t - off] < NEVER) {
                        bites[t] = Math.min(bites[t], bites[t - off] + 1);
                    }
                }
            }
            return bites[on] < NEVER ? bites[on] : NONE;
        }

        /** Behind bitesFor of the same APPLE: who bites as the k-th, each time the first by whom it stays the fewest. */
        private int biterAt(Valley v, int p, int k) {
            int on = v.today.toffee[p];
            int who = NONE;
            for (int i = 0; i <= k && i < MOST_TOFFEE; i++) {
                who = firstOnShortestRow(v, p, on);
                if (who == NONE) {
                    return NONE;
                }
                on -= v.comesOff(v.today, who, p, on);
            }
            return who;
        }

        private int firstOnShortestRow(Valley v, int p, int on) {
            for (int b = 0; b < v.biters; b++) {
                int off = v.comesOff(v.today, b, p, on);
                if (off > 0 && bites[on - off] == bites[on] - 1) {
                    return b;
                }
            }
            return NONE;
        }
    }

    /** Who should bite which, so that most comes off: all ways are tried in their order. */
    private static final class Feast {
        private final int[] on = new int[APPLES];
        private final int[] way = new int[BITERS];
        private final int[] best = new int[BITERS];
        private int most;

        private void lay(Valley v) {
            System.arraycopy(v.today.toffee, 0, on, 0, APPLES);
            most = NONE;
            seat(this, v, 0, 0);
        }

        /** A bite that takes nothing off is passed over: the same way without it comes first. */
        private static void seat(Feast table, Valley v, int b, int sum) {
            if (b >= v.biters || b >= BITERS) {
                table.keepIfMore(sum);
                return;
            }
            table.way[b] = NONE;
            seat(table, v, b + 1, sum);
            for (int p = 0; p < v.apples; p++) {
                int off = v.comesOff(v.today, b, p, table.on[p]);
                if (off > 0) {
                    table.on[p] -= off;
                    table.way[b] = p;
                    seat(table, v, b + 1, sum + off);
                    table.on[p] += off;
                }
            }
        }

        private void keepIfMore(int sum) {
            if (sum > most) {
                most = sum;
                System.arraycopy(way, 0, best, 0, BITERS);
            }
        }
    }

    /** Two who have one APPLE between them: on which DAYS they rest. */
    private static final class Pair {
        private static final int CHOICES = 10;

        private final int[] first = new int[CHOICES];
        private final int[] second = new int[CHOICES];
        private final int[] resting = new int[CHOICES * CHOICES];
        private int count;

        private void weigh(Valley v, int a, int b, int p) {
            for (int i = 0; i < CHOICES; i++) {
                int h = v.hardBehind(p, i);
                first[i] = v.takesOff(a, h);
                second[i] = v.takesOff(b, h);
            }
            count = 0;
            for (int i = 0; i < CHOICES; i++) {
                for (int j = 0; j < CHOICES; j++) {
                    if (isBestAgainst(first, i, j) && isBestAgainst(second, j, i)) {
                        resting[count] = 10 * i + j;
                        count++;
                    }
                }
            }
        }

        private static boolean isBestAgainst(int[] takes, int own, int others) {
            int gained = gain(takes, own, others);
            for (int i = 0; i < CHOICES; i++) {
                if (gain(takes, i, others) > gained) {
                    return false;
                }
            }
            return true;
        }

        private static int gain(int[] takes, int own, int others) {
            if (own < others) {
                return takes[own] + own / 2;
            }
            return own == others ? takes[own] - 1 : takes[own] / 2;
        }
    }

    /** What may have been: how much was on an APPLE, which KIND it or a BITER is, what to look at next. */
    private static final class Guess {
        private static final int LOOK_AGES = 24;
        private static final int ASK_HARD = 20;

        private final int[] answers = new int[KINDS];

        private int toffeeAhead(Valley v, int p, int what) {
            int fitting = 0;
            int least = NONE;
            int greatest = NONE;
            for (int t = 1; t <= MOST_TOFFEE; t++) {
                if (fitsLefts(v, p, t)) {
                    fitting++;
                    least = least == NONE ? t : least;
                    greatest = t;
                }
            }
            if (what == 0) {
                return fitting;
            }
            return what == 1 ? least : greatest;
        }

        private static boolean fitsLefts(Valley v, int p, int t) {
            Rows rows = v.lefts;
            for (int i = 0; i < rows.count; i++) {
                if (rows.cell(i, 0) == p) {
                    int b = rows.cell(i, 1);
                    int h = Kind.hardness(v.kind[p], t, rows.cell(i, 3), rows.cell(i, 2));
                    int off = v.hasBiter(b) ? v.takesOff(b, h) : 0;
                    if (t - Math.min(t, off) != rows.cell(i, 4)) {
                        return false;
                    }
                }
            }
            return true;
        }

        private int appleKinds(Valley v, int p) {
            int bits = 0;
            for (int kind = 0; kind < KINDS; kind++) {
                if (fitsNotes(v.notes, p, kind)) {
                    bits |= 1 << kind;
                }
            }
            return bits;
        }

        private static boolean fitsNotes(Rows rows, int p, int kind) {
            for (int i = 0; i < rows.count; i++) {
                if (rows.cell(i, 0) == p) {
                    int h = Kind.hardness(kind, rows.cell(i, 1), rows.cell(i, 2), rows.cell(i, 3));
                    if (h != rows.cell(i, 4)) {
                        return false;
                    }
                }
            }
            return true;
        }

        private int bestLook(Valley v, int p) {
            int bits = appleKinds(v, p);
            int toffee = Math.max(1, v.today.toffee[p]);
            int fewest = KINDS + 1;
            int best = NONE;
            for (int a = 0; a <= LOOK_AGES && bits != 0; a++) {
                for (int w = 0; w <= MOST_DAMP; w++) {
                    for (int kind = 0; kind < KINDS; kind++) {
                        answers[kind] = Kind.hardness(kind, toffee, a, w);
                    }
                    int alike = mostAlike(bits);
                    if (alike < fewest) {
                        fewest = alike;
                        best = 10 * a + w;
                    }
                }
            }
            return best;
        }

        private int biterKinds(Valley v, int b) {
            int bits = 0;
            for (int kind = 0; kind < KINDS; kind++) {
                if (fitsMarks(v.marks, b, kind)) {
                    bits |= 1 << kind;
                }
            }
            return bits;
        }

        private static boolean fitsMarks(Rows rows, int b, int kind) {
            for (int i = 0; i < rows.count; i++) {
                if (rows.cell(i, 0) == b
                        && Kind.strength(kind, rows.cell(i, 1), rows.cell(i, 2)) != rows.cell(i, 3)) {
                    return false;
                }
            }
            return true;
        }

        private int bestBite(Valley v, int b) {
            int bits = biterKinds(v, b);
            int fewest = KINDS + 1;
            int best = NONE;
            for (int h = 0; h <= ASK_HARD && bits != 0; h++) {
                for (int kind = 0; kind < KINDS; kind++) {
                    answers[kind] = Kind.strength(kind, v.teeth[b], h);
                }
                int alike = mostAlike(bits);
                if (alike < fewest) {
                    fewest = alike;
                    best = h;
                }
            }
            return best;
        }

        /** Of the KINDS told by bits: how many at most answer alike. */
        private int mostAlike(int bits) {
            int most = 0;
            for (int kind = 0; kind < KINDS; kind++) {
                int alike = 0;
                for (int other = 0; other < KINDS; other++) {
                    boolean both = (bits >> kind & 1) == 1 && (bits >> other & 1) == 1;
                    if (both && answers[kind] == answers[other]) {
                        alike++;
                    }
                }
                most = Math.max(most, alike);
            }
            return most;
        }
    }
}
