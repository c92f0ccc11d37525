import java.util.List;

/**
 * Each number of each call at both its ends: there it is taken, beyond them it is refused as BAD, ahead of NO and FULL,
 * and nothing but STATUS is changed then.
 */
public final class RangesTest {
    private static final int BAD = -2, NO = -3, FULL = -4, LOW = Integer.MIN_VALUE, HIGH = Integer.MAX_VALUE;

    public static void main(String[] args) {
        for (int[] size : new int[][] {{7, 4}, {3, 2}, {2, 3}}) {
            numbersOfTheValley(size[0], size[1]);
            numbersOfApplesAndBiters(size[0], size[1]);
            numbersOfWhatWas(size[0], size[1]);
        }
        nobodyIsThere();
        full();
        out();
        nothingToGoBackTo();
        Due.end();
    }

    private static void numbersOfTheValley(int apples, int biters) {
        taken(apples, biters, "damp", BAD, 0, 5, 0, 4);
        taken(apples, biters, "days", BAD, 1, 60);
        taken(apples, biters, "type", BAD, 0, 127);
        taken(apples, biters, "forget", BAD, 0, 2);
        taken(apples, biters, "wasps", BAD, 0, 10);
        taken(apples, biters, "augusts", BAD, 0, 999999, 0, 60);
        taken(apples, biters, "part", BAD, 0, 1);
        taken(apples, biters, "image", BAD, 0, 1);
        taken(apples, biters, "from", BAD, 0, 1);
        taken(apples, biters, "status", -1, 0, 2);
        taken(apples, biters, "count", BAD, 0, 11);
        if (apples < 7) {
            taken(apples, biters, "apple", BAD, 0, 5, 1, 30, 0, 99);
        }
        if (biters < 4) {
            taken(apples, biters, "biter", BAD, 0, 5, 1, 9);
        }
    }

    private static void numbersOfApplesAndBiters(int apples, int biters) {
        int p = apples - 1;
        int b = biters - 1;
        // The last APPLE is OUT, so that the one ahead of it is the last that can be bitten.
        taken(apples, biters, "of", BAD, 0, p, 0, 5);
        taken(apples, biters, "about", BAD, 0, b, 0, 1);
        taken(apples, biters, "hard", BAD, 0, p, 0, 60);
        taken(apples, biters, "takes", BAD, 0, b, 0, p);
        taken(apples, biters, "stuck", BAD, 0, p);
        taken(apples, biters, "when", BAD, 0, b, 0, p);
        taken(apples, biters, "few", -10, 0, p, -1, HIGH);
        taken(apples, biters, "feast", -10, -1, b);
        taken(apples, biters, "on", BAD, 0, p, 0, 2);
        taken(apples, biters, "is", BAD, 0, p);
        taken(apples, biters, "look", BAD, 0, p);
        taken(apples, biters, "kinds", BAD, 0, b);
        taken(apples, biters, "ask", BAD, 0, b);
        refused(apples, biters, "bites", BAD, 0, b, 0, p);
        refused(apples, biters, "dips", BAD, 0, p, 1, 9);
        takenOnce(apples, biters, "bites", BAD, 0, 0);
        takenOnce(apples, biters, "bites", BAD, b, p - 1);
        takenOnce(apples, biters, "dips", BAD, 0, 1);
        takenOnce(apples, biters, "dips", BAD, p - 1, 9);
        refused(apples, biters, "pair", -10, 0, b, 0, b, 0, p, -1, HIGH);
        takenOnce(apples, biters, "pair", -10, 0, b, 0, -1);
        takenOnce(apples, biters, "pair", -10, b, 0, p, HIGH);
        for (int alike = 0; alike < biters; alike++) {
            isRefused(apples, biters, "pair", -10, 0, alike, alike, 0, -1);
        }
    }

    private static void numbersOfWhatWas(int apples, int biters) {
        taken(apples, biters, "left", BAD, 0, apples - 1, 0, biters - 1, 0, 4, 0, 99, 0, 30);
        taken(apples, biters, "note", BAD, 0, apples - 1, 1, 30, 0, 99, 0, 4, 0, 30);
        taken(apples, biters, "mark", BAD, 0, biters - 1, 1, 9, 0, 30, 0, 40);
    }

    /** Least and most of each number, in turn: both are taken, what is beyond is refused. */
    private static void taken(int apples, int biters, String name, int refusal, int... ends) {
        int numbers = ends.length / 2;
        for (int least = 0; least < 1 << numbers; least++) {
            int[] arguments = new int[numbers];
            for (int i = 0; i < numbers; i++) {
                arguments[i] = ends[2 * i + (least >> i & 1)];
            }
            takenOnce(apples, biters, name, refusal, arguments);
        }
        refused(apples, biters, name, refusal, ends);
    }

    private static void takenOnce(int apples, int biters, String name, int refusal, int... arguments) {
        ToffeeWords x = Fair.valley(apples, biters);
        int bad = x.status(0);
        int no = x.status(1);
        int full = x.status(2);
        long answer = Fair.call(x, name, arguments);
        String told = told(name, arguments);
        Due.holds(told + " is taken", answer != refusal || name.equals("status"));
        Due.due(told + ": refused as BAD", x.status(0), bad);
        Due.due(told + ": refused as NO", x.status(1), no);
        Due.due(told + ": refused as FULL", x.status(2), full);
    }

    private static void refused(int apples, int biters, String name, int refusal, int... ends) {
        int numbers = ends.length / 2;
        for (int i = 0; i < numbers; i++) {
            int least = ends[2 * i];
            int most = ends[2 * i + 1];
            for (int beyond : new int[] {least - 1, LOW, most < HIGH ? most + 1 : LOW, most < HIGH ? HIGH : LOW}) {
                int[] arguments = new int[numbers];
                for (int other = 0; other < numbers; other++) {
                    arguments[other] = other == i ? beyond : ends[2 * other + other % 2];
                }
                isRefused(apples, biters, name, refusal, 0, arguments);
            }
        }
    }

    /** Against a twin that has not been called so. */
    private static void isRefused(int apples, int biters, String name, int refusal, int as, int... arguments) {
        isRefused(Fair.valley(apples, biters), Fair.valley(apples, biters), name, refusal, as, arguments);
    }

    private static void isRefused(ToffeeWords x, ToffeeWords twin, String name, int refusal, int as, int... arguments) {
        String told = told(name, arguments);
        Due.due(told, Fair.call(x, name, arguments), refusal);
        for (int what = 0; what < 3; what++) {
            Due.due(told + ": status " + what, x.status(what), twin.status(what) + (what == as ? 1 : 0));
        }
        List<Long> seen = Fair.spend(x);
        Due.holds(told + " changes nothing but STATUS", seen.equals(Fair.spend(twin)));
    }

    private static String told(String name, int[] arguments) {
        StringBuilder told = new StringBuilder(name).append('(');
        for (int i = 0; i < arguments.length; i++) {
            told.append(i == 0 ? "" : ", ").append(arguments[i]);
        }
        return told.append(')').toString();
    }

    private static void nobodyIsThere() {
        for (int number : new int[] {LOW, -1, 0, 1, HIGH}) {
            isRefused(0, 0, "of", BAD, 0, number, 0);
            isRefused(0, 0, "about", BAD, 0, number, 0);
            isRefused(0, 0, "hard", BAD, 0, number, 0);
            isRefused(0, 0, "stuck", BAD, 0, number);
            isRefused(0, 0, "few", -10, 0, number, -1);
            isRefused(0, 0, "on", BAD, 0, number, 0);
            isRefused(0, 0, "note", BAD, 0, number, 1, 0, 0, 0);
            isRefused(0, 0, "mark", BAD, 0, number, 1, 0, 0);
            isRefused(0, 0, "is", BAD, 0, number);
            isRefused(0, 0, "look", BAD, 0, number);
            isRefused(0, 0, "kinds", BAD, 0, number);
            isRefused(0, 0, "ask", BAD, 0, number);
            isRefused(0, 0, "dips", BAD, 0, number, 1);
            isRefused(1, 0, "bites", BAD, 0, number, 0);
            isRefused(0, 1, "bites", BAD, 0, 0, number);
            isRefused(1, 0, "takes", BAD, 0, number, 0);
            isRefused(0, 1, "takes", BAD, 0, 0, number);
            isRefused(1, 0, "when", BAD, 0, number, 0);
            isRefused(0, 1, "when", BAD, 0, 0, number);
            isRefused(1, 0, "left", BAD, 0, 0, number, 0, 0, 0);
            isRefused(0, 1, "left", BAD, 0, number, 0, 0, 0, 0);
            isRefused(0, 2, "pair", -10, 0, 0, 1, number, -1);
            isRefused(1, 1, "pair", -10, 0, 0, number, 0, -1);
            isRefused(1, 1, "pair", -10, 0, number, 0, 0, -1);
        }
        for (int b : new int[] {LOW, -2, 0, 1, HIGH}) {
            isRefused(1, 0, "feast", -10, 0, b);
        }
        takenOnce(0, 0, "feast", -10, -1);
        takenOnce(0, 0, "days", BAD, 1);
        takenOnce(0, 0, "augusts", BAD, 0, 60);
        takenOnce(0, 0, "wasps", BAD, 10);
    }

    /** A valley in which no more of anything has room. */
    private static ToffeeWords brimful() {
        ToffeeWords x = Fair.valley(7, 4);
        for (int i = 0; i < 2; i++) {
            x.left(0, 0, 0, 0, 0);
        }
        for (int i = 0; i < 3; i++) {
            x.note(0, 1, 0, 0, 0);
            x.mark(0, 1, 0, 0);
        }
        return x;
    }

    private static ToffeeWords brimfulOfText() {
        ToffeeWords x = Fair.valley(2, 2);
        Fair.type(x, " ".repeat(150 - Fair.TEXT.length()));
        return x;
    }

    private static void full() {
        isRefused(brimful(), brimful(), "apple", FULL, 2, 0, 1, 0);
        isRefused(brimful(), brimful(), "apple", BAD, 0, 6, 1, 0);
        isRefused(brimful(), brimful(), "apple", BAD, 0, 0, 31, 0);
        isRefused(brimful(), brimful(), "apple", BAD, 0, 0, 1, 100);
        isRefused(brimful(), brimful(), "biter", FULL, 2, 0, 1);
        isRefused(brimful(), brimful(), "biter", BAD, 0, -1, 1);
        isRefused(brimful(), brimful(), "biter", BAD, 0, 0, 10);
        isRefused(brimful(), brimful(), "left", FULL, 2, 0, 0, 0, 0, 0);
        isRefused(brimful(), brimful(), "left", BAD, 0, 7, 0, 0, 0, 0);
        isRefused(brimful(), brimful(), "left", BAD, 0, 0, 0, 0, 0, 31);
        isRefused(brimful(), brimful(), "note", FULL, 2, 0, 1, 0, 0, 0);
        isRefused(brimful(), brimful(), "note", BAD, 0, 0, 0, 0, 0, 0);
        isRefused(brimful(), brimful(), "note", BAD, 0, 0, 1, 0, 0, 31);
        isRefused(brimful(), brimful(), "mark", FULL, 2, 0, 1, 0, 0);
        isRefused(brimful(), brimful(), "mark", BAD, 0, 4, 1, 0, 0);
        isRefused(brimful(), brimful(), "mark", BAD, 0, 0, 1, 0, 41);
        isRefused(brimfulOfText(), brimfulOfText(), "type", FULL, 2, 32);
        isRefused(brimfulOfText(), brimfulOfText(), "type", BAD, 0, 128);
        isRefused(brimfulOfText(), brimfulOfText(), "type", BAD, 0, -1);
    }

    /** The last APPLE is OUT. */
    private static void out() {
        isRefused(7, 4, "bites", NO, 1, 0, 6);
        isRefused(7, 4, "bites", NO, 1, 3, 6);
        isRefused(7, 4, "bites", BAD, 0, 4, 6);
        isRefused(7, 4, "dips", NO, 1, 6, 1);
        isRefused(7, 4, "dips", NO, 1, 6, 9);
        isRefused(7, 4, "dips", BAD, 0, 6, 0);
        isRefused(7, 4, "dips", BAD, 0, 6, 10);
    }

    private static void nothingToGoBackTo() {
        isRefused(new ToffeeWords(), new ToffeeWords(), "undo", NO, 1);
        isRefused(new ToffeeWords(), new ToffeeWords(), "from", NO, 1, 0);
        isRefused(new ToffeeWords(), new ToffeeWords(), "from", NO, 1, 1);
        isRefused(new ToffeeWords(), new ToffeeWords(), "from", BAD, 0, 2);
        isRefused(one(), one(), "from", NO, 1, 1);
        isRefused(one(), one(), "undo", NO, 1);
    }

    private static ToffeeWords one() {
        ToffeeWords x = new ToffeeWords();
        x.image(0);
        x.days(1);
        x.apple(0, 1, 0);
        return x;
    }
}
