import java.math.BigInteger;

/**
 * The sentences of "Terms" and of the promises that name a boundary case: a method for each, the sentence ahead of it.
 * Ranges of numbers stand in RangesTest, THE TEXT in TextEdgesTest.
 */
public final class EdgesTest {
    private static final int NONE = -1, BAD = -2, NO = -3, FULL = -4, HIGH = Integer.MAX_VALUE;
    private static final int RED = 0, BROWN = 1, GREEN = 2, WINDFALL = 3, GREAT = 4, ALL = 5;
    private static final int PLAIN = 0, OLD = 1, CHILD = 2, WASP = 3, BRIDE = 4, DUKE = 5;

    public static void main(String[] args) {
        terms();
        kindsOfApples();
        kindsOfBiters();
        bitesAndDippings();
        daysGoBy();
        howHard();
        fewAndFeast();
        whatWas();
        whatIs();
        betweenTwo();
        waspsAndAugusts();
        undoing();
        imagesAndStatus();
        Due.end();
    }

    private static void due(String what, long got, long want) {
        Due.due(what, got, want);
    }

    private static void pass(ToffeeWords x, int days) {
        for (int left = days; left > 0; left -= 60) {
            x.days(Math.min(60, left));
        }
    }

    private static void dampAll(ToffeeWords x, int... w) {
        for (int d = 0; d < 6; d++) {
            x.damp(d, w[d % w.length]);
        }
    }

    private static ToffeeWords at(int day) {
        ToffeeWords x = new ToffeeWords();
        pass(x, day);
        return x;
    }

    // ---- terms

    private static void terms() {
        applesAsTheyCome();
        bitersAsTheyCome();
        termFromItsOwnFirstOn();
        lastTerm();
        dampWrapsAround();
        dampBehindTheLastDay();
        allAsAtFirst();
    }

    /** "APPLES 0 .. 6, as they come", "AGE (0 at first)". */
    private static void applesAsTheyCome() {
        ToffeeWords x = new ToffeeWords();
        for (int p = 0; p < 7; p++) {
            due("the next apple", x.apple(p % 6, 30 - p, 99 - p), p);
            due("not yet", x.of(p + 1, 0), BAD);
            x.days(1);
        }
        due("an eighth", x.apple(0, 1, 0), FULL);
        for (int p = 0; p < 7; p++) {
            due("kind", x.of(p, 0), p % 6);
            due("toffee", x.of(p, 1), 30 - p);
            due("term", x.of(p, 2), 99 - p);
            due("age", x.of(p, 3), 7 - p);
        }
        due("all", x.valley(), 7);
        due("the first one again", x.apple(0, 1, 0), 0);
        due("its age", x.of(0, 3), 0);
    }

    /** "BITERS 0 .. 3, as they come". */
    private static void bitersAsTheyCome() {
        ToffeeWords x = new ToffeeWords();
        for (int b = 0; b < 4; b++) {
            due("the next biter", x.biter(b + 2, 9 - b), b);
            due("not yet", x.about(b + 1, 0), BAD);
        }
        due("a fifth", x.biter(0, 1), FULL);
        for (int b = 0; b < 4; b++) {
            due("kind", x.about(b, 0), b + 2);
            due("teeth", x.about(b, 1), 9 - b);
        }
    }

    /** "a TERM (DAYS 0 .. 99 from its own first on)": "KEPT, if its AGE is its TERM or more, else BROKEN". */
    private static void termFromItsOwnFirstOn() {
        ToffeeWords x = at(50);
        x.biter(CHILD, 1);
        for (int term = 0; term < 7; term++) {
            x.apple(RED, 1, term);
        }
        x.days(3);
        for (int p = 0; p < 7; p++) {
            x.bites(0, p);
            due("term " + p + " at an age of 3", x.of(p, 4), p <= 3 ? 1 : 2);
        }
        due("kept", x.count(4), 4);
        due("broken", x.count(5), 3);
        due("not out", x.count(3), 0);
    }

    /** "TERM (.. 99 ..)". */
    private static void lastTerm() {
        ToffeeWords x = new ToffeeWords();
        x.apple(RED, 1, 99);
        x.apple(RED, 1, 99);
        x.apple(RED, 1, 98);
        x.biter(CHILD, 1);
        pass(x, 98);
        x.bites(0, 0);
        x.bites(0, 2);
        x.days(1);
        x.bites(0, 1);
        due("98 of 99", x.of(0, 4), 2);
        due("99 of 99", x.of(1, 4), 1);
        due("98 of 98", x.of(2, 4), 1);
    }

    /** "DAMP of 6 days (DAY d has that of d by 6 left over)". */
    private static void dampWrapsAround() {
        ToffeeWords x = new ToffeeWords();
        x.apple(RED, 9, 0);
        int[] w = {4, 0, 3, 1, 2, 3};
        dampAll(x, w);
        for (int day = 0; day <= 13; day++) {
            due("hard on day " + day, x.of(0, 5), 9 - w[day % 6]);
            due("hard behind 0", x.hard(0, 0), 9 - w[day % 6]);
            due("hard behind 1", x.hard(0, 1), 9 - w[(day + 1) % 6]);
            due("hard behind 60", x.hard(0, 60), 9 - w[day % 6]);
            x.days(1);
        }
    }

    /** "DAYS go beyond 999 in them": 999 has DAMP 3, the day behind it 4, the one behind that 5, then 0. */
    private static void dampBehindTheLastDay() {
        ToffeeWords x = at(999);
        int[] w = {4, 0, 3, 1, 2, 3};
        dampAll(x, w);
        x.apple(RED, 9, 0);
        x.biter(PLAIN, 6);
        for (int m = 0; m <= 60; m++) {
            due("hard behind " + m, x.hard(0, m), 9 - w[(3 + m) % 6]);
        }
        due("damp 4 comes first on day 1002", x.when(0, 0), 3);
        due("999 yet", x.count(2), 999);
    }

    /** "As told; nothing is there." and "All as at first (but for IMAGES, THE TEXT, THE FRACTION, STATUS)". */
    private static void allAsAtFirst() {
        ToffeeWords x = Fair.valley(7, 4);
        x.undo();
        x.days(61);
        long above = x.part(0);
        due("apples there were", x.valley(), 7);
        due("none there are", x.valley(), 0);
        for (int what = 0; what <= 10; what++) {
            due("count " + what, x.count(what), 0);
        }
        due("nothing to undo", x.undo(), NO);
        for (int d = 0; d < 6; d++) {
            due("dry", x.damp(d, 0), 0);
        }
        due("THE FRACTION stays", x.part(0), above);
        due("THE TEXT stays", x.count(11), Fair.TEXT.length());
        due("STATUS stays", 10 * x.status(0) + x.status(1), 11);
        due("IMAGES stay", x.from(0), 1);
        due("IMAGES stay", x.count(0), 7);
        ToffeeWords y = new ToffeeWords();
        due("a new one is a valley as at first", y.digest(), emptied());
        ToffeeWords z = new ToffeeWords();
        Fair.overrun(z);
        z.image(0);
        z.valley();
        Due.holds("nothing of it is left", Fair.live(z).equals(Fair.live(new ToffeeWords())));
        due("nothing was refused", y.status(0) + y.status(1) + y.status(2), 0);
    }

    private static long emptied() {
        ToffeeWords x = Fair.valley(2, 2);
        x.valley();
        x.clear();
        x.wasps(0);
        return x.digest();
    }

    // ---- kinds

    /** How HARD it is, seen on an APPLE; then by NOTES: so by this KIND, not so one more, one less. */
    private static void hard(int kind, int t, int a, int w, int want) {
        ToffeeWords x = new ToffeeWords();
        dampAll(x, w);
        x.apple(kind, t, 0);
        x.biter(CHILD, 1);
        pass(x, Math.max(0, a - 60));
        due("kind " + kind + " with " + t + " at " + a + ", damp " + w, x.hard(0, Math.min(60, a)), want);
        if (a <= 99) {
            for (int off = -1; off <= 1; off++) {
                if (want + off >= 0) {
                    x.note(0, t, a, w, want + off);
                    due("by a note", x.is(0) >> kind & 1, off == 0 ? 1 : 0);
                    x.forget(1);
                }
            }
        }
    }

    private static void kindsOfApples() {
        redOnes();
        brownOnes();
        greenOnes();
        windfalls();
        greatOnes();
        allToffee();
        withNothingOn();
    }

    /** "RED: t, 9 at most, less w, 0 at least." */
    private static void redOnes() {
        hard(RED, 1, 0, 0, 1);
        hard(RED, 8, 0, 0, 8);
        hard(RED, 9, 0, 0, 9);
        hard(RED, 10, 0, 0, 9);
        hard(RED, 30, 99, 0, 9);
        hard(RED, 10, 0, 1, 8);
        hard(RED, 30, 0, 4, 5);
        hard(RED, 5, 0, 4, 1);
        hard(RED, 4, 0, 4, 0);
        hard(RED, 3, 0, 4, 0);
        hard(RED, 1, 0, 4, 0);
    }

    /** "BROWN: RED, and 1 for each whole 4 DAYS of a, 6 at most of these." */
    private static void brownOnes() {
        hard(BROWN, 9, 0, 0, 9);
        hard(BROWN, 9, 3, 0, 9);
        hard(BROWN, 9, 4, 0, 10);
        hard(BROWN, 9, 7, 0, 10);
        hard(BROWN, 9, 8, 0, 11);
        hard(BROWN, 9, 23, 0, 14);
        hard(BROWN, 9, 24, 0, 15);
        hard(BROWN, 9, 27, 0, 15);
        hard(BROWN, 9, 28, 0, 15);
        hard(BROWN, 9, 99, 0, 15);
        hard(BROWN, 9, 1059, 0, 15);
        hard(BROWN, 2, 4, 4, 1);
        hard(BROWN, 30, 24, 4, 11);
    }

    /** "GREEN: RED less 1 for each whole 3 DAYS of a, 0 at least." */
    private static void greenOnes() {
        hard(GREEN, 9, 2, 0, 9);
        hard(GREEN, 9, 3, 0, 8);
        hard(GREEN, 9, 5, 0, 8);
        hard(GREEN, 9, 6, 0, 7);
        hard(GREEN, 9, 26, 0, 1);
        hard(GREEN, 9, 27, 0, 0);
        hard(GREEN, 9, 30, 0, 0);
        hard(GREEN, 9, 99, 0, 0);
        hard(GREEN, 30, 14, 4, 1);
        hard(GREEN, 30, 15, 4, 0);
        hard(GREEN, 2, 3, 4, 0);
    }

    /** "WINDFALL: half (cut) of GREEN." */
    private static void windfalls() {
        hard(WINDFALL, 1, 0, 0, 0);
        hard(WINDFALL, 2, 0, 0, 1);
        hard(WINDFALL, 9, 0, 0, 4);
        hard(WINDFALL, 30, 2, 0, 4);
        hard(WINDFALL, 30, 3, 0, 4);
        hard(WINDFALL, 30, 6, 0, 3);
        hard(WINDFALL, 30, 6, 1, 3);
        hard(WINDFALL, 30, 6, 2, 2);
        hard(WINDFALL, 30, 99, 0, 0);
    }

    /** "GREAT: BROWN and 5." */
    private static void greatOnes() {
        hard(GREAT, 1, 0, 1, 5);
        hard(GREAT, 1, 4, 4, 6);
        hard(GREAT, 9, 23, 0, 19);
        hard(GREAT, 30, 24, 0, 20);
        hard(GREAT, 30, 99, 0, 20);
        hard(GREAT, 30, 99, 4, 16);
    }

    /** "ALL: twice BROWN, 20 at most." */
    private static void allToffee() {
        hard(ALL, 1, 0, 1, 0);
        hard(ALL, 1, 0, 0, 2);
        hard(ALL, 9, 0, 0, 18);
        hard(ALL, 9, 3, 0, 18);
        hard(ALL, 9, 4, 0, 20);
        hard(ALL, 9, 8, 0, 20);
        hard(ALL, 30, 99, 0, 20);
        hard(ALL, 30, 16, 4, 18);
        hard(ALL, 30, 20, 4, 20);
        hard(ALL, 30, 24, 4, 20);
    }

    /** "how HARD an APPLE (OUT or not) is": OUT, with nothing on, at the AGE at which it went OUT. */
    private static void withNothingOn() {
        nothingOn(7, 0, 1, 0, 0, 6, 2);
        nothingOn(8, 0, 2, 0, 0, 7, 4);
        nothingOn(23, 0, 5, 0, 0, 10, 10);
        nothingOn(24, 0, 6, 0, 0, 11, 12);
    }

    private static void nothingOn(int age, int... due) {
        ToffeeWords x = new ToffeeWords();
        x.biter(CHILD, 1);
        for (int kind = 0; kind < 6; kind++) {
            x.apple(kind, 1, 0);
        }
        x.days(age);
        for (int p = 0; p < 6; p++) {
            x.bites(0, p);
        }
        x.days(30);
        for (int p = 0; p < 6; p++) {
            due("OUT: hard now", x.of(p, 5), due[p]);
            due("OUT: hard", x.hard(p, 0), due[p]);
            due("OUT: it ages no more", x.hard(p, 60), due[p]);
        }
        dampAll(x, 4);
        for (int p = 0; p < 6; p++) {
            due("OUT and damp: nothing less than none", x.hard(p, 1), due[p]);
        }
    }

    /** What is taken off, by MARKS; then seen on an APPLE with 30 on that is so HARD. */
    private static void takes(int kind, int teeth, int h, int want) {
        ToffeeWords x = new ToffeeWords();
        x.apple(h <= 9 ? GREEN : h <= 15 ? BROWN : GREAT, 30, 0);
        x.biter(kind, teeth);
        pass(x, h <= 9 ? 3 * (9 - h) : h <= 15 ? 4 * (h - 9) : 4 * (h - 14));
        String told = "kind " + kind + ", teeth " + teeth + ", hard " + h;
        due(told, x.of(0, 5), h);
        due(told, x.takes(0, 0), want);
        due(told + ": stuck", x.stuck(0), want == 0 ? 1 : 0);
        due(told + ": bites", x.bites(0, 0), want);
        due(told + ": on yet", x.of(0, 1), 30 - want);
        for (int off = -1; off <= 1; off++) {
            if (want + off >= 0) {
                x.mark(0, teeth, h, want + off);
                due(told + ", by a mark", x.kinds(0) >> kind & 1, off == 0 ? 1 : 0);
                x.forget(2);
            }
        }
    }

    private static void kindsOfBiters() {
        // "PLAIN: b less h, 0 at least."
        takes(PLAIN, 9, 0, 9);
        takes(PLAIN, 9, 8, 1);
        takes(PLAIN, 9, 9, 0);
        takes(PLAIN, 9, 10, 0);
        takes(PLAIN, 1, 0, 1);
        takes(PLAIN, 1, 20, 0);
        // "OLD: half (cut) of PLAIN."
        takes(OLD, 9, 0, 4);
        takes(OLD, 9, 1, 4);
        takes(OLD, 9, 7, 1);
        takes(OLD, 9, 8, 0);
        takes(OLD, 1, 0, 0);
        takes(OLD, 2, 0, 1);
        // "CHILD: PLAIN, 1 at least."
        takes(CHILD, 9, 7, 2);
        takes(CHILD, 9, 8, 1);
        takes(CHILD, 9, 9, 1);
        takes(CHILD, 1, 20, 1);
        // "WASP: CHILD, and 2, if h is 2 or less."
        takes(WASP, 9, 3, 6);
        takes(WASP, 9, 2, 9);
        takes(WASP, 9, 0, 11);
        takes(WASP, 1, 2, 3);
        takes(WASP, 1, 3, 1);
        takes(WASP, 1, 20, 1);
        // "BRIDE: PLAIN and 1, if that is 1 or more."
        takes(BRIDE, 9, 7, 3);
        takes(BRIDE, 9, 8, 2);
        takes(BRIDE, 9, 9, 0);
        takes(BRIDE, 1, 0, 2);
        takes(BRIDE, 1, 1, 0);
        // "DUKE: twice BRIDE."
        takes(DUKE, 9, 0, 20);
        takes(DUKE, 9, 8, 4);
        takes(DUKE, 9, 9, 0);
        takes(DUKE, 1, 0, 4);
        takes(DUKE, 1, 1, 0);
        heavyMarks();
    }

    /** "took x (0 .. 40) off what was h (0 .. 30) HARD": nobody takes more than 20; what is 30 HARD only CHILD and WASP bite. */
    private static void heavyMarks() {
        ToffeeWords x = new ToffeeWords();
        x.biter(PLAIN, 1);
        x.mark(0, 9, 0, 40);
        due("40", x.kinds(0), 0);
        x.forget(2);
        x.mark(0, 9, 0, 20);
        due("20: a DUKE", x.kinds(0), 1 << DUKE);
        x.forget(2);
        x.mark(0, 9, 30, 1);
        due("30 hard: CHILD, WASP", x.kinds(0), 1 << CHILD | 1 << WASP);
        x.forget(2);
        x.mark(0, 9, 30, 0);
        due("30 hard: all the others", x.kinds(0), 63 - (1 << CHILD | 1 << WASP));
    }

    // ---- bites, dippings, days

    private static void bitesAndDippings() {
        whatIsOnAtMost();
        outIsBittenNoMore();
        dippedTo30();
        dippedIsHarder();
    }

    /** "so much comes off (what is on at most); if nothing is on then, the word is OUT". */
    private static void whatIsOnAtMost() {
        ToffeeWords x = new ToffeeWords();
        dampAll(x, 4);
        x.apple(RED, 9, 0);
        x.apple(RED, 8, 0);
        x.apple(RED, 7, 0);
        x.biter(BRIDE, 9);
        x.biter(DUKE, 7);
        // 5 HARD: a BRIDE of 9 takes 5; then 4 are on, 0 HARD: 10, so the 4.
        due("5 of 9", x.bites(0, 0), 5);
        due("not OUT", x.of(0, 4), 0);
        due("would take", x.takes(0, 0), 4);
        due("4 of 4", x.bites(0, 0), 4);
        due("OUT", x.of(0, 4), 1);
        // 4 HARD: a DUKE of 7 takes 8: all of 8, at once.
        due("8 of 8", x.takes(1, 1), 8);
        due("8 of 8", x.bites(1, 1), 8);
        due("OUT", x.of(1, 4), 1);
        // 3 HARD: 10 of 7.
        due("7 of 7", x.bites(1, 2), 7);
        due("OUT", x.of(2, 1), 0);
        due("none is on", x.count(6), 0);
    }

    /** "One that is OUT is bitten no more, ages no more." "TAKES .. (OUT: 0)." */
    private static void outIsBittenNoMore() {
        ToffeeWords x = new ToffeeWords();
        x.apple(GREEN, 1, 1);
        x.apple(GREEN, 1, 1);
        x.biter(WASP, 9);
        x.bites(0, 0);
        x.days(1);
        x.bites(0, 1);
        for (int p = 0; p < 2; p++) {
            due("bitten no more", x.bites(0, p), NO);
            due("dipped no more", x.dips(p, 1), NO);
            due("takes", x.takes(0, p), 0);
            due("stuck", x.stuck(p), 1);
            due("when", x.when(0, p), NONE);
            due("few", x.few(p, NONE), 0);
            due("few", x.few(p, 0), -5);
        }
        due("feast", x.feast(NONE), 0);
        due("feast", x.feast(0), NONE);
        due("two to bite, one day", x.count(10), 3);
        due("none is not OUT", x.days(60), 0);
        due("age of the broken one", x.of(0, 3), 0);
        due("age of the kept one", x.of(1, 3), 1);
        due("broken yet", x.of(0, 4), 2);
        due("kept yet", x.of(1, 4), 1);
    }

    /** "DIPPING: n more is on (30 at most)." */
    private static void dippedTo30() {
        ToffeeWords x = new ToffeeWords();
        x.apple(RED, 20, 0);
        due("29", x.dips(0, 9), 29);
        due("30", x.dips(0, 1), 30);
        due("30 yet", x.dips(0, 1), 30);
        due("each may be undone", x.count(10), 3);
        x.undo();
        x.undo();
        due("29", x.of(0, 1), 29);
        due("30 at most", x.dips(0, 2), 30);
        x.undo();
        x.undo();
        due("20", x.of(0, 1), 20);
        due("21", x.dips(0, 1), 21);
        due("30", x.dips(0, 9), 30);
    }

    /** TOFFEE of 9 and more is alike HARD; below, each dipping makes it harder. */
    private static void dippedIsHarder() {
        ToffeeWords x = new ToffeeWords();
        x.apple(RED, 7, 0);
        x.biter(PLAIN, 9);
        int[] due = {2, 1, 0, 0};
        for (int takes : due) {
            due("takes", x.takes(0, 0), takes);
            x.dips(0, 1);
        }
        due("it is as old as it was", x.of(0, 3), 0);
    }

    private static void daysGoBy() {
        daysTogether();
        toTheLastDay();
        onTheLastDay();
    }

    /** "n DAYS go by (1 .. 60; together one that may be undone ..): how many APPLES are not OUT." */
    private static void daysTogether() {
        ToffeeWords x = new ToffeeWords();
        due("nobody", x.days(1), 0);
        x.apple(RED, 1, 0);
        x.apple(RED, 1, 0);
        x.biter(CHILD, 1);
        due("two", x.days(60), 2);
        due("day 61", x.count(2), 61);
        due("one to undo", x.count(10), 1);
        x.bites(0, 1);
        due("one", x.days(1), 1);
        due("age", x.of(0, 3), 61);
        x.bites(0, 0);
        due("none", x.days(2), 0);
        due("undone", x.undo(), 62);
        due("the bite", x.undo(), 62);
        due("the day", x.undo(), 61);
        due("the other bite", x.undo(), 61);
        due("60 together", x.undo(), 1);
        due("no more", x.undo(), NO);
        due("two are not OUT", x.count(3), 2);
        due("ages", x.of(0, 3) + x.of(1, 3), 0);
    }

    /** "DAYS have numbers, 0 at first (999 at most)". */
    private static void toTheLastDay() {
        ToffeeWords x = at(940);
        x.apple(BROWN, 9, 0);
        due("one is not OUT", x.days(58), 1);
        due("998", x.count(2), 998);
        x.days(1);
        due("999", x.count(2), 999);
        due("age", x.of(0, 3), 59);
        x.undo();
        due("998", x.count(2), 998);
        x.days(60);
        due("one alone goes by", x.count(2), 999);
        due("age", x.of(0, 3), 59);
        due("it is one that may be undone", x.undo(), 998);
        due("age", x.of(0, 3), 58);
        due("ahead of 58", x.undo(), 940);
        x.days(59);
        due("999", x.count(2), 999);
    }

    /** "(.. at 999 none)". */
    private static void onTheLastDay() {
        ToffeeWords x = at(999);
        x.apple(RED, 5, 1);
        x.apple(RED, 1, 0);
        x.biter(CHILD, 1);
        x.bites(0, 1);
        for (int n : new int[] {1, 2, 60}) {
            due("one is not OUT", x.days(n), 1);
            due("999", x.count(2), 999);
            due("it has not aged", x.of(0, 3), 0);
            due("the bite alone may be undone", x.count(10), 1);
        }
        due("BAD all the same", x.days(61), BAD);
        due("BAD all the same", x.days(0), BAD);
        due("the bite is undone", x.undo(), 999);
        due("both are not OUT", x.days(1), 2);
        due("no more", x.undo(), NO);
    }

    // ---- how hard

    private static void howHard() {
        sixtyDaysOn();
        stuckAsBits();
        whenFirst();
        latestWhen();
        nothingIsChanged();
    }

    /** "behind m (0 .. 60) DAYS, nobody biting". */
    private static void sixtyDaysOn() {
        ToffeeWords x = new ToffeeWords();
        x.damp(0, 1);
        x.apple(GREAT, 2, 0);
        due("now", x.hard(0, 0), 6);
        due("behind 3", x.hard(0, 3), 7);
        due("behind 4", x.hard(0, 4), 8);
        due("behind 6", x.hard(0, 6), 7);
        due("behind 59", x.hard(0, 59), 13);
        due("behind 60, on a damp day", x.hard(0, 60), 12);
        x.days(5);
        due("behind 1", x.hard(0, 1), 7);
        due("behind 60", x.hard(0, 60), 13);
    }

    /** "STUCK: BITERS (bits) who would take nothing off an APPLE now." */
    private static void stuckAsBits() {
        ToffeeWords x = new ToffeeWords();
        x.apple(RED, 9, 0);
        due("nobody is there", x.stuck(0), 0);
        x.biter(PLAIN, 9);
        due("the first", x.stuck(0), 1);
        x.biter(CHILD, 1);
        due("not the child", x.stuck(0), 1);
        x.biter(DUKE, 9);
        x.biter(OLD, 9);
        due("and the last two", x.stuck(0), 13);
        x.damp(0, 1);
        due("damp: the old one alone", x.stuck(0), 8);
        x.damp(0, 2);
        due("damper: nobody", x.stuck(0), 0);
    }

    /** "WHEN: in how many DAYS (0 .. 60) a BITER would take something off an APPLE first; none." */
    private static void whenFirst() {
        ToffeeWords x = new ToffeeWords();
        x.apple(RED, 9, 0);
        x.biter(PLAIN, 9);
        due("never", x.when(0, 0), NONE);
        x.damp(0, 1);
        due("now", x.when(0, 0), 0);
        x.days(1);
        due("day 6", x.when(0, 0), 5);
        x.damp(3, 1);
        due("day 3", x.when(0, 0), 2);
        x.days(2);
        due("now", x.when(0, 0), 0);
        x.apple(BROWN, 9, 0);
        due("BROWN, too", x.when(0, 1), 0);
        x.days(1);
        // DAY 6 finds BROWN 3 old, 9 less 1; DAY 9 finds it 6 old, 10 less 1.
        due("day 6", x.when(0, 1), 2);
        x.days(3);
        due("too hard from now on", x.when(0, 1), NONE);
    }

    /** None is waited for longer than a GREEN one of 9: 27 DAYS; an OLD one with 1 tooth waits for ever. */
    private static void latestWhen() {
        for (int day : new int[] {0, 999}) {
            ToffeeWords x = at(day);
            x.apple(GREEN, 30, 0);
            x.biter(PLAIN, 1);
            x.biter(OLD, 1);
            x.biter(OLD, 2);
            x.biter(CHILD, 1);
            due("27", x.when(0, 0), 27);
            due("never", x.when(1, 0), NONE);
            due("27", x.when(2, 0), 27);
            due("at once", x.when(3, 0), 0);
        }
    }

    /** "(Nothing is changed by these ..)". */
    private static void nothingIsChanged() {
        ToffeeWords x = Fair.valley(7, 4);
        ToffeeWords twin = Fair.valley(7, 4);
        for (int p = 0; p < 7; p += 3) {
            x.hard(p, 60);
            x.takes(0, p);
            x.stuck(p);
            x.when(1, p);
            x.few(p, NONE);
            x.few(p, 0);
            x.on(p, 0);
            x.is(p);
            x.look(p);
            x.pair(0, 1, p, NONE);
        }
        for (int b = NONE; b < 4; b++) {
            x.feast(b);
        }
        x.kinds(0);
        x.ask(0);
        x.augusts(7, 60);
        due("nothing was refused", x.status(0) + x.status(1) + x.status(2), 0);
        Due.holds("nothing is changed", Fair.spend(x).equals(Fair.spend(twin)));
    }

    private static void fewAndFeast() {
        fewestAreThirty();
        fewestIsOne();
        firstRowOfLikeOnes();
        noRow();
        feastOfNone();
        noneComesFirst();
        applesRising();
        oneBehindTheOther();
    }

    /** "how many (0 .. 30)". */
    private static void fewestAreThirty() {
        ToffeeWords x = new ToffeeWords();
        x.apple(GREAT, 30, 0);
        x.biter(CHILD, 1);
        due("30", x.few(0, NONE), 30);
        due("the first", x.few(0, 0), 0);
        due("the last", x.few(0, 29), 0);
        due("not so many", x.few(0, 30), -5);
        due("not so many", x.few(0, HIGH), -5);
        due("k", x.few(0, -2), -10);
    }

    private static void fewestIsOne() {
        ToffeeWords x = new ToffeeWords();
        x.apple(WINDFALL, 16, 0);
        x.biter(PLAIN, 9);
        x.biter(DUKE, 9);
        // 4 HARD: a DUKE takes 12, a PLAIN one 5; behind him 11 are on, 4 HARD yet: the DUKE takes these.
        due("two", x.few(0, NONE), 2);
        due("the plain one first", x.few(0, 0), 0);
        due("then the duke", x.few(0, 1), 1);
        x.days(6);
        // 3 HARD: 14; then 2 are on.
        due("two", x.few(0, NONE), 2);
        x.days(6);
        // 2 HARD: 16, all.
        due("one", x.few(0, NONE), 1);
        due("the duke", x.few(0, 0), 1);
        due("not so many", x.few(0, 1), -5);
    }

    /** "who bites as the k-th in the first such row (BITERS rising)". */
    private static void firstRowOfLikeOnes() {
        ToffeeWords x = new ToffeeWords();
        x.apple(RED, 3, 0);
        x.biter(PLAIN, 4);
        x.biter(CHILD, 1);
        x.biter(PLAIN, 4);
        // 3 HARD: 1 off by each; then 2 are on: 2 off by a PLAIN one.
        due("two", x.few(0, NONE), 2);
        due("the first one", x.few(0, 0), 0);
        due("the first one again", x.few(0, 1), 0);
        ToffeeWords y = new ToffeeWords();
        y.apple(RED, 3, 0);
        y.biter(CHILD, 1);
        y.biter(PLAIN, 4);
        y.biter(PLAIN, 4);
        due("two", y.few(0, NONE), 2);
        due("the child may be first", y.few(0, 0), 0);
        due("not the last", y.few(0, 1), 1);
    }

    /** "-6: none (whatever k is)." */
    private static void noRow() {
        ToffeeWords x = new ToffeeWords();
        x.apple(RED, 5, 0);
        for (int k : new int[] {NONE, 0, 1, 29, 30, 31, HIGH}) {
            due("nobody", x.few(0, k), -6);
        }
        x.biter(PLAIN, 5);
        x.biter(OLD, 6);
        for (int k : new int[] {NONE, 0, 1, 29, 30, 31, HIGH}) {
            due("all are stuck", x.few(0, k), -6);
        }
        due("BAD is ahead of it", x.few(0, -2), -10);
        x.biter(PLAIN, 6);
        due("not so", x.few(0, NONE), 3);
    }

    /** "each BITER bites one APPLE now .. (or none)". */
    private static void feastOfNone() {
        ToffeeWords x = new ToffeeWords();
        due("nobody, nothing", x.feast(NONE), 0);
        x.biter(CHILD, 9);
        due("nothing", x.feast(NONE), 0);
        due("none", x.feast(0), NONE);
        x.apple(RED, 9, 0);
        due("one", x.feast(NONE), 1);
        due("the apple", x.feast(0), 0);
        ToffeeWords y = new ToffeeWords();
        y.apple(RED, 9, 0);
        y.biter(PLAIN, 9);
        due("stuck", y.feast(NONE), 0);
        due("so none", y.feast(0), NONE);
    }

    /** "in the first such way (none (NONE) first ..": the last BITER alone takes all that can be taken. */
    private static void noneComesFirst() {
        ToffeeWords x = new ToffeeWords();
        x.apple(RED, 2, 0);
        for (int b = 0; b < 4; b++) {
            x.biter(PLAIN, 9);
        }
        due("two", x.feast(NONE), 2);
        for (int b = 0; b < 4; b++) {
            due("who", x.feast(b), b == 3 ? 0 : NONE);
        }
    }

    /** ".. then APPLES rising)". */
    private static void applesRising() {
        ToffeeWords x = new ToffeeWords();
        for (int p = 0; p < 7; p++) {
            x.apple(RED, 9, 0);
        }
        for (int b = 0; b < 4; b++) {
            x.biter(CHILD, 9);
        }
        // All on the first: 9 on, 8 on (1 off), 7 (2 off), 5 (4 off): 1, 1, 2, 4.
        due("eight", x.feast(NONE), 8);
        for (int b = 0; b < 4; b++) {
            due("the first apple", x.feast(b), 0);
        }
        ToffeeWords y = new ToffeeWords();
        for (int p = 0; p < 7; p++) {
            y.apple(RED, p == 3 || p == 5 ? 4 : 30, 0);
        }
        for (int b = 0; b < 4; b++) {
            y.biter(PLAIN, 5);
        }
        // Off what has 4 on come 1, then 2, then 1; all others are too hard: two bites each are 6, three and one are 5.
        due("six", y.feast(NONE), 6);
        due("first", y.feast(0), 3);
        due("second", y.feast(1), 3);
        due("third", y.feast(2), 5);
        due("last", y.feast(3), 5);
    }

    /** "one behind the other by numbers": who comes later finds it less HARD. */
    private static void oneBehindTheOther() {
        ToffeeWords x = new ToffeeWords();
        x.apple(RED, 5, 0);
        x.apple(RED, 9, 0);
        x.biter(PLAIN, 5);
        x.biter(CHILD, 1);
        // The PLAIN one comes first and is stuck; the child takes 1.
        due("one", x.feast(NONE), 1);
        due("none", x.feast(0), NONE);
        due("the first apple", x.feast(1), 0);
        ToffeeWords y = new ToffeeWords();
        y.apple(RED, 5, 0);
        y.apple(RED, 9, 0);
        y.biter(CHILD, 1);
        y.biter(PLAIN, 5);
        // The child opens it: 1; then 5 less 4 comes off.
        due("two", y.feast(NONE), 2);
        due("the child", y.feast(0), 0);
        due("the plain one", y.feast(1), 0);
    }

    // ---- what was

    private static void whatWas() {
        fiveLeft();
        allThatFit();
        leastAndGreatestOn();
        sixNotes();
        sixMarks();
        forgotten();
    }

    /** "LEFT 0 .. 4, as they come", "FULL: 5". */
    private static void fiveLeft() {
        ToffeeWords x = new ToffeeWords();
        x.apple(RED, 1, 0);
        x.biter(PLAIN, 1);
        x.days(1);
        for (int i = 1; i <= 5; i++) {
            due("left", x.left(0, 0, 0, 0, 30), i);
        }
        due("a sixth", x.left(0, 0, 0, 0, 30), FULL);
        due("five", x.count(7), 5);
        due("undo is not touched", x.count(10), 1);
        due("a left one is not undone", x.undo(), 0);
        due("five", x.count(7), 5);
        due("BAD first", x.left(0, 0, 5, 0, 0), BAD);
    }

    /** "ON ..: how much may have been on it ahead of it (1 .. 30; alike each time), so that all LEFT of it are so". */
    private static void allThatFit() {
        ToffeeWords x = new ToffeeWords();
        x.apple(RED, 30, 0);
        x.apple(BROWN, 30, 0);
        x.biter(PLAIN, 5);
        x.biter(CHILD, 1);
        due("all fit", 100 * x.on(0, 0) + x.on(0, 2) - x.on(0, 1), 3029);
        // What was t, 4 damp: 1 .. 4 are 0 HARD, all comes off; 5: 4 off, 1 left.
        x.left(0, 0, 4, 99, 0);
        due("1 .. 4", 100 * x.on(0, 0) + 10 * x.on(0, 1) + x.on(0, 2), 414);
        due("the other one's are its own", x.on(1, 0), 30);
        x.left(0, 1, 0, 0, 1);
        due("2", 100 * x.on(0, 0) + 10 * x.on(0, 1) + x.on(0, 2), 122);
        x.left(0, 1, 0, 0, 2);
        due("none", x.on(0, 0), 0);
        due("none", x.on(0, 1), NONE);
        due("none", x.on(0, 2), NONE);
        // BROWN of 24: 6 HARD at least, so nothing comes off by 5 TEETH.
        x.left(1, 0, 4, 24, 17);
        due("17", 100 * x.on(1, 0) + x.on(1, 1), 117);
        due("17", x.on(1, 2), 17);
    }

    /** "the least; the greatest (NONE: none)", "x (0 .. 30) was on it yet". */
    private static void leastAndGreatestOn() {
        ToffeeWords x = new ToffeeWords();
        x.apple(RED, 1, 0);
        x.apple(GREEN, 1, 0);
        x.biter(PLAIN, 1);
        x.biter(CHILD, 1);
        x.biter(DUKE, 9);
        x.left(0, 0, 0, 0, 30);
        due("30 is stuck at", 100 * x.on(0, 1) + x.on(0, 2), 3030);
        x.forget(0);
        x.left(0, 1, 0, 0, 30);
        due("31 would be", x.on(0, 0), 0);
        due("31 would be", x.on(0, 2), NONE);
        x.forget(0);
        x.left(0, 1, 0, 0, 0);
        due("1", 100 * x.on(0, 1) + x.on(0, 2), 101);
        x.left(1, 2, 0, 99, 0);
        // GREEN and old: 20 come off what has 20 or less on.
        due("1 .. 20", x.on(1, 0), 20);
        due("1 .. 20", 100 * x.on(1, 1) + x.on(1, 2), 120);
        x.left(1, 2, 0, 99, 10);
        due("30 is not 20", x.on(1, 0), 0);
        x.forget(0);
        x.left(1, 2, 0, 99, 10);
        due("30", 100 * x.on(1, 0) + x.on(1, 1), 130);
        x.bites(1, 1);
        due("OUT, too", x.on(1, 2), 30);
    }

    /** "NOTES 0 .. 5, as they come", "FULL: 6". */
    private static void sixNotes() {
        ToffeeWords x = new ToffeeWords();
        x.apple(RED, 1, 0);
        x.days(1);
        for (int i = 1; i <= 6; i++) {
            due("note", x.note(0, 30, 99, 4, 30), i);
        }
        due("a seventh", x.note(0, 30, 99, 4, 30), FULL);
        due("six", x.count(8), 6);
        due("undo is not touched", x.undo(), 0);
        due("nothing is 30 hard", x.is(0), 0);
    }

    /** "MARKS 0 .. 5, as they come", "FULL: 6". */
    private static void sixMarks() {
        ToffeeWords x = new ToffeeWords();
        x.biter(PLAIN, 1);
        x.days(1);
        for (int i = 1; i <= 6; i++) {
            due("mark", x.mark(0, 9, 30, 40), i);
        }
        due("a seventh", x.mark(0, 9, 30, 40), FULL);
        due("six", x.count(9), 6);
        due("undo is not touched", x.undo(), 0);
    }

    /** "No LEFT ones (0), NOTES (1), MARKS (2): how many there were." */
    private static void forgotten() {
        ToffeeWords x = new ToffeeWords();
        x.apple(RED, 1, 0);
        x.biter(PLAIN, 1);
        x.days(1);
        for (int i = 0; i < 6; i++) {
            x.left(0, 0, 0, 0, 0);
            x.note(0, 1, 0, 0, 0);
            x.mark(0, 1, 0, 0);
        }
        due("left", x.forget(0), 5);
        due("notes", x.forget(1), 6);
        due("marks", x.forget(2), 6);
        for (int what = 0; what < 3; what++) {
            due("none", x.forget(what), 0);
        }
        due("there is room again", x.left(0, 0, 0, 0, 1), 1);
        due("there is room again", x.note(0, 1, 0, 0, 1), 1);
        due("there is room again", x.mark(0, 1, 0, 1), 1);
        due("the old ones do not come back", x.is(0), 7);
        due("undo is not touched", x.count(10), 1);
    }

    // ---- what is

    private static void whatIs() {
        kindsByNotes();
        kindsByMarks();
        lookAtOne();
        lookWithDamp();
        lookWhenOut();
        noKindToLookFor();
        askOne();
    }

    /** "IS: KINDS (bits) by which all NOTES of one are so." */
    private static void kindsByNotes() {
        ToffeeWords x = new ToffeeWords();
        x.apple(ALL, 30, 0);
        x.apple(RED, 30, 0);
        due("no note: any", x.is(0), 63);
        // 1 less 1: GREAT alone is 5, all others 0.
        x.note(0, 1, 0, 1, 0);
        due("not GREAT", x.is(0), 47);
        x.note(0, 9, 27, 0, 0);
        due("GREEN, WINDFALL", x.is(0), 12);
        due("the other one's are its own", x.is(1), 63);
        x.note(0, 2, 0, 0, 1);
        due("WINDFALL", x.is(0), 8);
        x.note(1, 30, 99, 0, 20);
        due("GREAT, ALL", x.is(1), 48);
        x.note(1, 30, 99, 4, 16);
        due("GREAT", x.is(1), 16);
        due("WINDFALL yet", x.is(0), 8);
        x.note(0, 9, 0, 0, 9);
        due("none", x.is(0), 0);
    }

    /** "WHAT: KINDS of BITERS (bits) by which all MARKS of one are so." */
    private static void kindsByMarks() {
        ToffeeWords x = new ToffeeWords();
        x.biter(DUKE, 9);
        x.biter(PLAIN, 1);
        due("no mark: any", x.kinds(0), 63);
        x.mark(1, 9, 9, 0);
        due("PLAIN, OLD, BRIDE, DUKE", x.kinds(1), 51);
        due("the other one's are its own", x.kinds(0), 63);
        x.mark(0, 3, 2, 3);
        due("WASP", x.kinds(0), 8);
        x.mark(1, 9, 8, 2);
        due("BRIDE", x.kinds(1), 16);
        x.mark(1, 9, 8, 3);
        due("none", x.kinds(1), 0);
        due("WASP yet", x.kinds(0), 8);
    }

    /** "LOOK: 10 a and w .. of like ones the least": what is known already is looked for at 0. */
    private static void lookAtOne() {
        ToffeeWords x = new ToffeeWords();
        x.apple(RED, 9, 0);
        x.note(0, 9, 4, 0, 10);
        due("BROWN", x.is(0), 2);
        due("one alone: at once", x.look(0), 0);
        x.forget(1);
        x.note(0, 9, 8, 0, 9);
        due("RED", x.is(0), 1);
        due("one alone: at once", x.look(0), 0);
        x.forget(1);
        x.note(0, 9, 3, 0, 9);
        // RED, BROWN are apart behind 4 DAYS.
        due("RED, BROWN", x.is(0), 3);
        due("behind 4", x.look(0), 40);
        x.forget(1);
        x.note(0, 4, 0, 0, 4);
        x.note(0, 4, 4, 4, 0);
        // RED, GREEN: apart behind 3.
        due("RED, GREEN", x.is(0), 5);
        due("behind 3", x.look(0), 30);
    }

    /** GREAT and ALL with 5 on are 10 both; with DAMP 1 they are 9 and 8. Six KINDS with 4 on: apart at 4 DAYS, DAMP 1. */
    private static void lookWithDamp() {
        ToffeeWords x = new ToffeeWords();
        x.apple(RED, 5, 0);
        x.apple(RED, 4, 0);
        x.note(0, 30, 99, 0, 20);
        due("GREAT, ALL", x.is(0), 48);
        due("damp 1", x.look(0), 1);
        x.dips(0, 1);
        due("6: 11 and 12", x.look(0), 0);
        // 3, 4, 2, 1, 9, 8; with no DAMP GREAT and ALL are 10 both.
        due("any: 4 days, damp 1", x.look(1), 41);
    }

    /** "its TOFFEE as it is (OUT: 1)". */
    private static void lookWhenOut() {
        ToffeeWords x = new ToffeeWords();
        x.apple(RED, 5, 0);
        x.apple(RED, 1, 0);
        x.biter(CHILD, 1);
        x.biter(PLAIN, 9);
        x.note(0, 30, 99, 0, 20);
        due("damp 1", x.look(0), 1);
        x.bites(1, 0);
        due("1 on: 6 and 2", x.look(0), 0);
        x.bites(0, 0);
        due("OUT", x.of(0, 1), 0);
        due("OUT: 6 and 2", x.look(0), 0);
        x.forget(1);
        int whole = x.look(1);
        x.bites(0, 1);
        due("OUT as 1", x.look(1), whole);
        due("1 1 0 0 6 2 behind 3", whole, 30);
        due("OUT as 1", x.look(0), 30);
    }

    /** "none: no KIND." for LOOK and for ASK. */
    private static void noKindToLookFor() {
        ToffeeWords x = new ToffeeWords();
        x.apple(RED, 1, 0);
        x.biter(PLAIN, 1);
        x.note(0, 1, 0, 0, 30);
        x.mark(0, 1, 0, 40);
        due("none", x.look(0), NONE);
        due("none", x.ask(0), NONE);
        due("it is no refusal", x.status(0), 0);
        x.forget(1);
        x.forget(2);
        due("any", x.look(0), 30);
        // 1 tooth: 1 0 1 3 2 4 at 0; 0 0 1 3 0 0 at 1.
        due("any", x.ask(0), 0);
    }

    /** "ASK: how HARD h (0 .. 20) by which, TEETH as they are, the most of these KINDS that take as much off are fewest". */
    private static void askOne() {
        for (int teeth = 1; teeth <= 9; teeth++) {
            ToffeeWords x = new ToffeeWords();
            x.biter(PLAIN, teeth);
            x.mark(0, 9, 5, 4);
            due("PLAIN, CHILD, WASP", x.kinds(0), 13);
            // At 0 a WASP is apart, PLAIN and CHILD are not, but for more HARD than there are TEETH; beyond 2 a WASP is as a CHILD.
            due("teeth " + teeth, x.ask(0), teeth <= 2 ? teeth : 0);
            x.mark(0, 9, 0, 9);
            due("PLAIN, CHILD", x.kinds(0), 5);
            due("apart where TEETH end", x.ask(0), teeth);
            x.mark(0, 1, 20, 0);
            due("PLAIN", x.kinds(0), 1);
            due("one alone: at once", x.ask(0), 0);
        }
    }

    // ---- between two

    private static void betweenTwo() {
        toTheNinthDay();
        bothOnTheNinth();
        nobodyRests();
        whateverIsOn();
        beyondTheLastDay();
        outBetweenThem();
    }

    private static void rests(String what, ToffeeWords x, int a, int b, int p, int... due) {
        due(what + ": how many", x.pair(a, b, p, NONE), due.length);
        for (int k = 0; k < due.length; k++) {
            due(what + ": rising", x.pair(a, b, p, k), due[k]);
        }
        due(what + ": not so many", x.pair(a, b, p, due.length), -5);
        due(what + ": not so many", x.pair(a, b, p, HIGH), -5);
    }

    /** "i, j (0 .. 9)": a DUKE takes 4 on the damp DAY 0, nothing else; 8 days' half is no more. The OLD one waits, 1 .. 9. */
    private static void toTheNinthDay() {
        ToffeeWords x = new ToffeeWords();
        x.damp(0, 1);
        x.apple(BROWN, 30, 0);
        x.biter(OLD, 8);
        x.biter(DUKE, 9);
        rests("the old one waits", x, 0, 1, 0, 10, 20, 30, 40, 50, 60, 70, 80, 90);
        rests("turned about", x, 1, 0, 0, 1, 2, 3, 4, 5, 6, 7, 8, 9);
    }

    /** "on one DAY: to each what he takes off, less 1": both wait for the ninth. */
    private static void bothOnTheNinth() {
        ToffeeWords x = new ToffeeWords();
        x.damp(0, 2);
        x.apple(GREEN, 19, 0);
        x.biter(DUKE, 4);
        x.biter(DUKE, 5);
        x.days(9);
        // Behind 9 days 8 and 10 come off, 7 and 9 if both come then. Ahead of that the first gets 4 and 1 at most (behind 3),
        // the other one 4 and 4 (behind 8).
        due("hard behind 3", x.hard(0, 3), 3);
        due("hard behind 8", x.hard(0, 8), 4);
        due("hard behind 9", x.hard(0, 9), 1);
        rests("both wait", x, 0, 1, 0, 99);
        rests("both wait", x, 1, 0, 0, 99);
    }

    /** No pair need rest: "how many" is 0 then, and there is no first one. */
    private static void nobodyRests() {
        ToffeeWords x = new ToffeeWords();
        x.apple(WINDFALL, 25, 0);
        x.biter(OLD, 7);
        x.biter(DUKE, 5);
        rests("nobody", x, 0, 1, 0);
        due("it is no refusal", x.status(0), 0);
    }

    /** "taking off what TEETH do, whatever is on". */
    private static void whateverIsOn() {
        ToffeeWords x = new ToffeeWords();
        x.apple(RED, 1, 0);
        x.biter(PLAIN, 3);
        x.biter(PLAIN, 9);
        // 2 and 8 come off on any day, though 1 is on. The lesser day: 2 and i / 2, 8 and j / 2. On one day 1, 7; left: 1, 4.
        // The second goes ahead of the first, or 0; the first is as well off on that day as behind it.
        rests("on one day as well off as behind", x, 0, 1, 0, 0, 10, 20);
    }

    /** The same behind DAY 999: AGES go on in it. */
    private static void beyondTheLastDay() {
        ToffeeWords x = at(999);
        // DAY 999 has the DAMP of 3, DAY 1008 that of 0.
        x.damp(3, 1);
        x.apple(BROWN, 30, 0);
        x.biter(OLD, 8);
        x.biter(DUKE, 9);
        rests("the old one waits", x, 0, 1, 0, 10, 20, 30, 40, 50, 60, 70, 80, 90);
    }

    /** "(OUT or not)": with nothing on, 0 HARD, ageing no more. */
    private static void outBetweenThem() {
        ToffeeWords x = new ToffeeWords();
        x.apple(RED, 1, 0);
        x.biter(CHILD, 1);
        x.biter(CHILD, 1);
        x.bites(0, 0);
        // 1 comes off, 1 and i / 2 on the lesser day, 0 on one day, 0 behind.
        rests("OUT", x, 0, 1, 0, 0, 1, 2, 10, 20);
    }

    // ---- wasps, Augusts

    private static void waspsAndAugusts() {
        waspsAtBothEnds();
        lowestTerms();
        whatHasNoneOn();
        augustsOfNoDays();
        augustsStepByStep();
        augustsBehindTheLastDay();
        augustsOfManySeeds();
        augustsAtTheCut();
    }

    private static void wasps(ToffeeWords x, int c, long above, long below) {
        due("wasps " + c, x.wasps(c), 1);
        due("above", x.part(0), above);
        due("below", x.part(1), below);
    }

    /** "by c of 10 (0 .. 10)": none is robbed at 0, each at 10. */
    private static void waspsAtBothEnds() {
        ToffeeWords x = new ToffeeWords();
        x.apple(RED, 9, 0);
        x.apple(RED, 10, 0);
        x.apple(ALL, 5, 0);
        wasps(x, 0, 28, 1);
        // 8, 9, 8.
        wasps(x, 10, 25, 1);
        wasps(x, 1, 277, 10);
        wasps(x, 9, 253, 10);
        due("nothing is robbed in truth", x.count(6), 24);
        due("nothing is to be undone", x.count(10), 0);
    }

    /** "lowest terms, below above 0". */
    private static void lowestTerms() {
        ToffeeWords x = new ToffeeWords();
        due("at first", x.part(0), 0);
        due("at first", x.part(1), 1);
        x.apple(RED, 5, 0);
        int[][] due = {{5, 1}, {49, 10}, {24, 5}, {47, 10}, {23, 5}, {9, 2}, {22, 5}, {43, 10}, {21, 5}, {41, 10}, {4, 1}};
        for (int c = 0; c <= 10; c++) {
            wasps(x, c, due[c][0], due[c][1]);
        }
        x.damp(0, 4);
        wasps(x, 5, 1, 2);
        wasps(x, 10, 0, 1);
        x.days(1);
        x.damp(1, 4);
        x.valley();
        wasps(x, 3, 0, 1);
    }

    /** "each APPLE that is not OUT", "(what has none on: 0)". */
    private static void whatHasNoneOn() {
        ToffeeWords x = new ToffeeWords();
        x.apple(GREAT, 1, 0);
        wasps(x, 0, 6, 1);
        wasps(x, 5, 3, 1);
        wasps(x, 10, 0, 1);
        x.dips(0, 1);
        wasps(x, 10, 6, 1);
        x.undo();
        x.biter(CHILD, 1);
        x.bites(0, 0);
        due("OUT it is 5 yet", x.of(0, 5), 5);
        wasps(x, 0, 0, 1);
        x.apple(BROWN, 1, 0);
        pass(x, 24);
        wasps(x, 0, 7, 1);
        wasps(x, 10, 0, 1);
    }

    /** "n (0 .. 60) DAYS": behind none those are KEPT that are KEPT now. */
    private static void augustsOfNoDays() {
        ToffeeWords x = new ToffeeWords();
        x.apple(RED, 1, 0);
        x.apple(RED, 1, 1);
        x.biter(CHILD, 1);
        due("none", x.augusts(0, 0), 0);
        x.bites(0, 0);
        x.bites(0, 1);
        due("one kept, one broken", x.augusts(999999, 0), 1);
        due("they stay so", x.augusts(999999, 60), 1);
    }

    /**
     * SEED 0: X becomes 12345 (BITER 0, APPLE 0), 1406932606 (0, 4), 654583775 (0, 1), 1449466924 (1, 3), 229283573 (2, 1),
     * 1109335178 (3, 0). The bite comes ahead of its DAY. APPLES 0 and 1 need two bites, the others one.
     */
    private static void augustsStepByStep() {
        int[] terms = {5, 4, 0, 3, 1, 0, 0};
        int[] due = {0, 0, 1, 1, 2, 3, 4};
        for (int n = 0; n < due.length; n++) {
            due("behind " + n, kept(terms, 4, n), due[n]);
        }
        due("too soon", kept(new int[] {6, 5, 0, 4, 2, 0, 0}, 4, 6), 0);
        due("no BITER 3", kept(terms, 3, 6), 3);
        due("no BITER 2", kept(terms, 2, 6), 2);
        due("no BITER 1", kept(terms, 1, 6), 1);
        due("nobody", kept(terms, 0, 6), 0);
        due("no APPLE 4", kept(new int[] {5, 4, 0, 3}, 4, 6), 3);
        due("no APPLE 3", kept(new int[] {5, 4, 0}, 4, 6), 2);
        due("one APPLE", kept(new int[] {5}, 4, 6), 1);
    }

    /** How many of APPLES with 1 on (the first two: 2), so many CHILDREN there, are KEPT behind n DAYS by SEED 0. */
    private static int kept(int[] terms, int biters, int n) {
        ToffeeWords x = new ToffeeWords();
        for (int p = 0; p < terms.length; p++) {
            x.apple(RED, p < 2 ? 2 : 1, terms[p]);
        }
        for (int b = 0; b < biters; b++) {
            x.biter(CHILD, 1);
        }
        int kept = x.augusts(0, n);
        due("nothing is changed", x.count(2) + x.count(4) + x.count(5), 0);
        return kept;
    }

    /** "DAYS go beyond 999 in them", so AGES do. */
    private static void augustsBehindTheLastDay() {
        ToffeeWords x = at(999);
        int[] terms = {0, 2, 0, 3, 1};
        for (int term : terms) {
            x.apple(RED, 1, term);
        }
        for (int b = 0; b < 4; b++) {
            x.biter(CHILD, 1);
        }
        due("all four are kept", x.augusts(0, 4), 4);
        due("999 yet", x.count(2), 999);
        ToffeeWords y = at(999);
        y.apple(RED, 9, 0);
        y.biter(DUKE, 9);
        // DAY 999 has the DAMP of 3: 5 HARD, a DUKE of 9 takes 10, so all 9 at once.
        y.damp(3, 4);
        due("the damp of day 999", y.augusts(0, 1), 1);
        y.damp(3, 0);
        due("stuck when dry", y.augusts(0, 1), 0);
    }

    /** "AUGUSTS by a SEED (0 .. 999999), n (0 .. 60) DAYS": each in big numbers, for one bite makes each APPLE OUT. */
    private static void augustsOfManySeeds() {
        ToffeeWords x = new ToffeeWords();
        int[] terms = {0, 5, 10, 15, 20, 25, 30};
        for (int term : terms) {
            x.apple(RED, 1, term);
        }
        x.biter(CHILD, 1);
        x.biter(PLAIN, 1);
        x.biter(CHILD, 9);
        for (int i = 0; i <= 400; i++) {
            int seed = i * 2499 + i % 2 * 400;
            int n = i % 61;
            due("augusts of " + seed + ", " + n, x.augusts(seed, n), slowly(seed, n, terms));
        }
        due("the greatest SEED", x.augusts(999999, 60), slowly(999999, 60, terms));
        due("no greater one", x.augusts(1000000, 60), BAD);
    }

    /** BITERS 0 and 2 bite what is 1 HARD, 1 can not, 3 is not there. */
    private static int slowly(int seed, int days, int[] terms) {
        BigInteger x = BigInteger.valueOf(seed);
        boolean[] out = new boolean[7];
        int kept = 0;
        for (int day = 0; day < days; day++) {
            x = x.multiply(BigInteger.valueOf(1103515245)).add(BigInteger.valueOf(12345)).mod(BigInteger.ONE.shiftLeft(31));
            int b = x.divide(BigInteger.ONE.shiftLeft(16)).mod(BigInteger.valueOf(4)).intValue();
            int p = x.divide(BigInteger.ONE.shiftLeft(20)).mod(BigInteger.valueOf(7)).intValue();
            if (b % 2 == 0 && !out[p]) {
                out[p] = true;
                kept += day >= terms[p] ? 1 : 0;
            }
        }
        return kept;
    }

    /**
     * "X by 65536 (cut), by 4 left over", "X by 1048576 (cut), by 7 left over", just where the cut is: SEED 501379 makes X 1605 times
     * 1048576 (BITER 0, APPLE 2), SEED 899870 193 times 1048576 less 1 (BITER 3, APPLE 3).
     */
    private static void augustsAtTheCut() {
        due("BITER 0, APPLE 2", firstBite(501379, 0, 2), 1);
        due("BITER 0, APPLE 1", firstBite(501379, 0, 1), 0);
        due("BITER 3, APPLE 2", firstBite(501379, 3, 2), 0);
        due("BITER 3, APPLE 3", firstBite(899870, 3, 3), 1);
        due("BITER 3, APPLE 4", firstBite(899870, 3, 4), 0);
        due("BITER 0, APPLE 3", firstBite(899870, 0, 3), 0);
    }

    /** 1, if the first bite is this BITER's (all others are STUCK) on this APPLE (all others' TERMS are far away). */
    private static int firstBite(int seed, int b, int p) {
        ToffeeWords x = new ToffeeWords();
        for (int i = 0; i < 7; i++) {
            x.apple(RED, 1, i == p ? 0 : 99);
        }
        for (int i = 0; i < 4; i++) {
            x.biter(i == b ? CHILD : PLAIN, 1);
        }
        return x.augusts(seed, 1);
    }

    // ---- undo, images, status

    private static void undoing() {
        eightAtMost();
        noneBehindWhatComes();
        refusedIsNotToBeUndone();
        undoneTogether();
    }

    /** "(8 at most ..". */
    private static void eightAtMost() {
        ToffeeWords x = new ToffeeWords();
        x.apple(RED, 1, 0);
        for (int i = 1; i <= 12; i++) {
            x.dips(0, 1);
            due("may be undone", x.count(10), Math.min(8, i));
        }
        for (int i = 1; i <= 8; i++) {
            due("the day", x.undo(), 0);
            due("on it", x.of(0, 1), 13 - i);
            due("may be undone", x.count(10), 8 - i);
        }
        due("the ninth is gone", x.undo(), NO);
        due("5 on", x.of(0, 1), 5);
        x.days(1);
        due("one again", x.count(10), 1);
    }

    /** ".. behind a DAMP told, an APPLE, a BITER that comes none may be)". */
    private static void noneBehindWhatComes() {
        for (int i = 0; i < 5; i++) {
            ToffeeWords x = new ToffeeWords();
            x.apple(RED, 5, 0);
            x.days(1);
            x.dips(0, 1);
            due("two", x.count(10), 2);
            if (i == 0) {
                due("DAMP as it was", x.damp(0, 0), 0);
            } else if (i == 1) {
                due("another DAMP", x.damp(5, 4), 0);
            } else if (i == 2) {
                due("an APPLE", x.apple(RED, 1, 0), 1);
            } else if (i == 3) {
                due("a BITER", x.biter(PLAIN, 1), 0);
            } else {
                due("a new valley", x.valley(), 1);
            }
            due("none", x.count(10), 0);
            due("none", x.undo(), NO);
            x.days(1);
            due("one again", x.undo(), i == 4 ? 0 : 1);
        }
    }

    private static void refusedIsNotToBeUndone() {
        ToffeeWords x = new ToffeeWords();
        x.apple(RED, 1, 0);
        x.biter(CHILD, 1);
        x.bites(0, 0);
        due("one", x.count(10), 1);
        x.bites(0, 0);
        x.bites(0, 9);
        x.dips(0, 1);
        x.dips(0, 0);
        x.days(0);
        x.days(61);
        x.damp(6, 0);
        x.damp(0, 5);
        x.apple(RED, 0, 0);
        x.biter(PLAIN, 0);
        x.read();
        x.from(0);
        due("one yet", x.count(10), 1);
        due("it is undone", x.undo(), 0);
        due("not OUT", x.count(3), 1);
    }

    /** "TOFFEE, AGES, what is OUT, KEPT, the DAY as ahead of the last DAYS gone by, BITE, DIPPING". */
    private static void undoneTogether() {
        ToffeeWords x = new ToffeeWords();
        x.apple(RED, 2, 1);
        x.apple(RED, 2, 9);
        x.biter(CHILD, 3);
        long first = x.digest();
        x.days(1);
        long second = x.digest();
        x.bites(0, 0);
        long third = x.digest();
        x.dips(0, 1);
        x.undo();
        due("the dipping", x.digest(), third);
        x.bites(0, 0);
        due("kept", x.count(4), 1);
        x.undo();
        due("the last bite", x.digest(), third);
        x.undo();
        due("the bite", x.digest(), second);
        x.undo();
        due("the day", x.digest(), first);
        due("a stuck one is a BITE", stuckOne(), 1);
    }

    private static int stuckOne() {
        ToffeeWords x = new ToffeeWords();
        x.apple(RED, 9, 0);
        x.biter(PLAIN, 9);
        due("STUCK", x.bites(0, 0), 0);
        return x.count(10);
    }

    private static void imagesAndStatus() {
        imagesKeepAll();
        imagesStayApart();
        statusOfEach();
        countsOfAll();
        digestOfAll();
    }

    /** "IMAGES 0, 1 keep all but them, THE TEXT, THE FRACTION and STATUS; what may be undone they keep". */
    private static void imagesKeepAll() {
        for (int i = 0; i < 2; i++) {
            ToffeeWords x = Fair.valley(7, 4);
            long then = x.digest();
            x.image(i);
            x.image(i);
            Fair.overrun(x);
            x.from(i);
            due("all is there", x.digest(), then);
            due("what may be undone, too", x.count(10), 5);
            int[] days = {9, 2, 2, 2, 0};
            for (int day : days) {
                due("undone", x.undo(), day);
            }
            due("not OUT again", x.count(3), 7);
            due("no more", x.undo(), NO);
            x.wasps(7);
            x.type('x');
            x.days(0);
            long above = x.part(0);
            long below = x.part(1);
            x.from(i);
            due("THE FRACTION stays", x.part(0), above);
            due("THE FRACTION stays", x.part(1), below);
            due("THE TEXT stays", x.count(11), Fair.TEXT.length() + 1);
            due("STATUS stays", 10 * x.status(0) + x.status(1), 11);
        }
    }

    private static void imagesStayApart() {
        ToffeeWords x = new ToffeeWords();
        due("of nothing", x.image(0), 1);
        x.apple(RED, 5, 0);
        x.biter(CHILD, 1);
        due("of one", x.image(1), 1);
        for (int i = 0; i < 5; i++) {
            x.bites(0, 0);
        }
        x.note(0, 1, 0, 0, 1);
        x.damp(0, 4);
        x.from(1);
        due("5 on", x.of(0, 1), 5);
        due("no note", x.count(8), 0);
        due("dry", x.damp(0, 0), 0);
        x.from(0);
        due("nothing", x.count(0) + x.count(1), 0);
        x.from(1);
        x.days(3);
        x.image(0);
        x.from(1);
        due("day 0", x.count(2), 0);
        x.from(0);
        due("day 3", x.count(2), 3);
        due("it may be undone", x.undo(), 0);
        x.from(0);
        due("the image is as it was", x.count(10), 1);
    }

    /** "STATUS: how many calls were refused as BAD, NO, FULL", "-1: another what (counts as BAD)". */
    private static void statusOfEach() {
        ToffeeWords x = new ToffeeWords();
        for (int what = 0; what < 3; what++) {
            due("none yet", x.status(what), 0);
        }
        due("another what", x.status(3), -1);
        due("another what", x.status(-1), -1);
        due("two", x.status(0), 2);
        x.few(0, NONE);
        x.feast(0);
        x.pair(0, 1, 0, NONE);
        due("five", x.status(0), 5);
        x.part(2);
        x.count(12);
        x.image(2);
        x.from(2);
        due("nine", x.status(0), 9);
        x.from(0);
        x.undo();
        due("NO", x.status(1), 2);
        x.read();
        due("a FAULT is none", x.status(0) + x.status(1) + x.status(2), 11);
        x.valley();
        x.image(0);
        x.from(0);
        due("they stay", x.status(0), 9);
        due("they stay", x.status(1), 2);
        due("FULL", x.status(2), 0);
    }

    /** Each count apart; 3 and 4 and 5 are all APPLES together; 6 leaves out what is OUT. */
    private static void countsOfAll() {
        ToffeeWords x = new ToffeeWords();
        for (int p = 0; p < 7; p++) {
            x.apple(RED, p < 5 ? 1 : 30, p);
        }
        x.biter(CHILD, 1);
        x.days(2);
        due("all are on", x.count(6), 65);
        for (int p = 0; p < 5; p++) {
            x.bites(0, p);
        }
        due("not OUT", x.count(3), 2);
        due("kept", x.count(4), 3);
        due("broken", x.count(5), 2);
        due("60", x.count(6), 60);
        due("seven", x.count(0), 7);
        due("may be undone", x.count(10), 6);
        x.type(0);
        due("a byte", x.count(11), 1);
    }

    /** "h = 1657; then h = 31 h + v for each v", with Java's wrap-around; nothing is refused in it. */
    private static void digestOfAll() {
        ToffeeWords x = new ToffeeWords();
        due("of nothing", x.digest(), mixed(0, 0, 0, 0, 0, 0, 0, 0, 0, 0, 0, 0, 0, 0, 0, 0, 0, 0, 0, 1));
        int[] w = {1, 2, 3, 4, 0, 1};
        dampAll(x, w);
        x.apple(GREAT, 29, 98);
        x.apple(BROWN, 1, 2);
        x.biter(OLD, 7);
        x.biter(CHILD, 3);
        for (int i = 0; i < 5; i++) {
            x.left(1, 0, 4 - i, 90 + i, 20 + i);
        }
        for (int i = 0; i < 6; i++) {
            x.note(0, 30 - i, 94 + i, 4, 30 - i);
            x.mark(1, 9 - i, 30 - i, 40 - i);
        }
        x.days(3);
        x.bites(1, 1);
        Fair.type(x, "xyz");
        x.wasps(3);
        // GREAT on DAY 3, DAMP 4: 9 less 4, and 5, robbed or not.
        due("of all", x.digest(), mixed(2, 2, 3, 1, 1, 0, 29, 5, 6, 6, 2, 3, 1, 2, 3, 4, 0, 1, 4, 29, 98, 3, 0, 1, 0, 2, 3, 1, 1, 7, 2, 3,
                1, 0, 4, 90, 20, 1, 0, 3, 91, 21, 1, 0, 2, 92, 22, 1, 0, 1, 93, 23, 1, 0, 0, 94, 24,
                0, 30, 94, 4, 30, 0, 29, 95, 4, 29, 0, 28, 96, 4, 28, 0, 27, 97, 4, 27, 0, 26, 98, 4, 26, 0, 25, 99, 4, 25,
                1, 9, 30, 40, 1, 8, 29, 39, 1, 7, 28, 38, 1, 6, 27, 37, 1, 5, 26, 36, 1, 4, 25, 35, 10, 1));
        long seen = x.digest();
        due("nothing is refused", x.status(0) + x.status(1) + x.status(2), 0);
        x.status(9);
        x.image(0);
        due("STATUS and IMAGES are not in it", x.digest(), seen);
    }

    private static long mixed(long... all) {
        long h = 1657;
        for (long v : all) {
            h = 31 * h + v;
        }
        return h;
    }
}
