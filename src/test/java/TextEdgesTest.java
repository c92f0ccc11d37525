/** THE TEXT: each kind of FAULT that the document names, at each place where it can be; and what is just no FAULT. */
public final class TextEdgesTest {
    private static final int NO = -3, FULL = -4;
    private static final String SEVEN = "valley;" + "apple 0 1 0;".repeat(7);
    private static final String FOUR = "valley;" + "biter 2 1;".repeat(4);
    /** One APPLE, one BITER who takes 1 off it: OUT behind one bite. */
    private static final String ONE = "valley;apple 0 1 0;biter 2 1;";

    /** Each sort of ITEM as its TOKENS, and what comes ahead of it; wrong numbers for each number are told in WRONG. */
    private static final String[][] ITEMS = {
        {"valley;", "damp", "4", ";"}, {"valley;", "damp", "0", "1", "2", "3", "4", "0", ";"},
        {"valley;", "apple", "5", "30", "99", ";"}, {"valley;", "apple", "0", "1", "0", ";"},
        {"valley;", "biter", "5", "9", ";"}, {"valley;", "biter", "0", "1", ";"},
        {ONE, "bite", "0", "0", ";"}, {ONE, "dip", "0", "9", ";"}, {ONE, "dip", "0", "1", ";"},
        {"valley;", "days", "99", ";"}, {"valley;", "days", "1", ";"},
    };
    private static final String[][] WRONG = {
        {"5", "10"}, {"5", "9", "99"}, {"6", "60"}, {"0", "00", "31", "99"}, {}, {"6", "99"}, {"0", "00", "10"},
        {"1", "9", "10"}, {"1", "7", "99"}, {"1", "6", "10"}, {"0", "00", "10", "99"}, {"0", "00"},
    };

    public static void main(String[] args) {
        itemsAtTheirEnds();
        everyTokenOutOfPlace();
        everyWrongNumber();
        everyByte();
        endsTooEarly();
        valleyOnceAndFirst();
        tooMany();
        notThereYet();
        isOut();
        runsOfFigures();
        blanks();
        at150Bytes();
        lastDay();
        firstFaultOfTwo();
        takesThePlace();
        everyLetter();
        whatItemsDo();
        faultBehindAReading();
        Due.end();
    }

    private static String told(String text) {
        return "'" + text.replace("\t", "\\t").replace("\0", "\\0") + "'";
    }

    private static void stands(String text, int items) {
        ToffeeWords x = Fair.valley(3, 2);
        Due.due("read of " + told(text), Fair.read(x, text), items);
        Due.due("nothing to undo behind " + told(text), x.undo(), NO);
    }

    /** A FAULT at the first byte of what comes behind the part ahead; all stays, STATUS too. */
    private static void fault(String ahead, String rest) {
        faultAt(ahead + rest, ahead.length());
    }

    private static void faultAt(String text, int place) {
        ToffeeWords x = Fair.valley(3, 2);
        ToffeeWords twin = Fair.valley(3, 2);
        x.clear();
        twin.clear();
        Fair.type(x, text);
        Fair.type(twin, text);
        Due.due("FAULT of " + told(text), x.read(), -10 - place);
        Due.due("FAULT again", x.read(), -10 - place);
        for (int what = 0; what < 3; what++) {
            Due.due("a FAULT is not in STATUS", x.status(what), twin.status(what));
        }
        Due.holds("all stays behind the FAULT of " + told(text), Fair.spend(x).equals(Fair.spend(twin)));
    }

    private static String joined(String[] item, int until) {
        StringBuilder text = new StringBuilder(item[0]);
        for (int i = 1; i < until; i++) {
            text.append(item[i]).append(item[i].equals(";") ? "" : " ");
        }
        return text.toString();
    }

    private static int itemsIn(String text) {
        return (int) text.chars().filter(c -> c == ';').count();
    }

    private static void itemsAtTheirEnds() {
        stands("valley;", 1);
        for (String[] item : ITEMS) {
            String text = joined(item, item.length);
            stands(text, itemsIn(text));
            stands(text + "days 1;", itemsIn(text) + 1);
        }
        for (int numbers = 1; numbers <= 6; numbers++) {
            stands("valley;damp" + " 4".repeat(numbers) + ";", 2);
        }
    }

    /** "the first TOKEN that can not stand there": a word, a strange byte, ; or a number where another sort is due. */
    private static void everyTokenOutOfPlace() {
        for (String[] item : ITEMS) {
            boolean damp = item[1].equals("damp");
            for (int at = 1; at < item.length; at++) {
                String ahead = joined(item, at);
                boolean stop = item[at].equals(";");
                fault(ahead, "ant 1;");
                fault(ahead, "# 1;");
                fault(ahead, "000 1;");
                if (at > 1) {
                    fault(ahead, "days 1;");
                    fault(ahead, "valley;");
                }
                if (!stop && !(damp && at > 2)) {
                    fault(ahead, ";");
                }
                if (at == 1 || stop && (!damp || at == 8)) {
                    fault(ahead, "0;");
                }
            }
        }
    }

    /** "a number not as told": numbers just beyond, where the number stands; WRONG goes by word and place. */
    private static void everyWrongNumber() {
        wrongNumbers("valley;damp ", WRONG[0], ";");
        wrongNumbers("valley;damp 0 1 2 3 4 ", WRONG[1], ";");
        wrongNumbers("valley;apple ", WRONG[2], " 1 0;");
        wrongNumbers("valley;apple 0 ", WRONG[3], " 0;");
        wrongNumbers("valley;apple 0 1 ", WRONG[4], ";");
        wrongNumbers("valley;biter ", WRONG[5], " 1;");
        wrongNumbers("valley;biter 0 ", WRONG[6], ";");
        wrongNumbers(ONE + "bite ", WRONG[7], " 0;");
        wrongNumbers(ONE + "bite 0 ", WRONG[8], ";");
        wrongNumbers(ONE + "dip ", WRONG[9], " 1;");
        wrongNumbers(ONE + "dip 0 ", WRONG[10], ";");
        wrongNumbers("valley;days ", WRONG[11], ";");
    }

    private static void wrongNumbers(String ahead, String[] numbers, String behind) {
        for (String number : numbers) {
            fault(ahead, number + behind);
        }
        fault(ahead, "100" + behind);
    }

    /** "a byte that begins none": all but a .. z, figures, ; and the blank. */
    private static void everyByte() {
        for (int c = 0; c < 128; c++) {
            String one = String.valueOf((char) c);
            boolean letter = c >= 'a' && c <= 'z';
            boolean figure = c >= '0' && c <= '9';
            standsOrFaultAt(one + "valley;", 1, c == ' ', 0);
            standsOrFaultAt("valley;" + one, 1, c == ' ', 7);
            standsOrFaultAt("valley" + one + ";", 1, c == ' ', letter ? 0 : c == ';' ? 7 : 6);
            standsOrFaultAt("valley;days 1" + one + ";", 2, c == ' ' || figure, c == ';' ? 14 : 13);
        }
        faultAt("Valley;", 0);
        faultAt("vAlley;", 0);
        faultAt("valley:", 6);
    }

    private static void standsOrFaultAt(String text, int items, boolean isWell, int place) {
        if (isWell) {
            stands(text, items);
        } else {
            faultAt(text, place);
        }
    }

    /** "the TEXT's length, if it ends too early (an empty one, too)". */
    private static void endsTooEarly() {
        faultAt("", 0);
        faultAt(" ", 1);
        faultAt("valley", 6);
        faultAt("valley ", 7);
        for (String[] item : ITEMS) {
            for (int at = 2; at < item.length; at++) {
                String text = joined(item, at);
                faultAt(text, text.length());
                faultAt(text.stripTrailing(), text.length() - 1);
                faultAt(text + "  ", text.length() + 2);
            }
        }
        faultAt("vall", 0);
        faultAt("valley;day", 7);
        faultAt(" ".repeat(150), 150);
        faultAt("valley" + " ".repeat(144), 150);
    }

    /** "valley (once, first of all)": "valley again, anything ahead of it". */
    private static void valleyOnceAndFirst() {
        for (String ahead : new String[] {"damp 1;", "apple 0 1 0;", "biter 0 1;", "bite 0 0;", "dip 0 1;", "days 1;", ";", "1", "12", "123"}) {
            faultAt(ahead + "valley;", 0);
            faultAt("  " + ahead + "valley;", 2);
        }
        fault("valley;", "valley;");
        fault("valley; ", "valley;");
        fault("valley;days 1;", "valley;");
        fault("valley ", "valley;");
        fault("valley ", "days 1;");
        fault("valley ", "0;");
        fault("valley;", ";");
    }

    /** "an 8th apple, a 5th biter at its word, a 7th number". */
    private static void tooMany() {
        stands(SEVEN, 8);
        fault(SEVEN, "apple 0 1 0;");
        fault(SEVEN, "apple 9 9 9;");
        fault(SEVEN, "apple");
        stands(SEVEN + "biter 0 1;", 9);
        stands(FOUR, 5);
        fault(FOUR, "biter 2 1;");
        fault(FOUR, "biter x");
        stands(FOUR + "apple 0 1 0;", 6);
        stands("valley;damp 0 0 0 0 0 4;", 2);
        fault("valley;damp 0 0 0 0 0 4 ", "4;");
        fault("valley;damp 0 0 0 0 0 4 ", "5;");
        fault("valley;damp 0 0 0 0 0 4 ", "400;");
    }

    /** "a BITER, an APPLE that is not there yet". */
    private static void notThereYet() {
        fault("valley;apple 0 1 0;bite ", "0 0;biter 0 1;");
        fault("valley;biter 0 1;bite 0 ", "0;apple 0 1 0;");
        fault("valley;dip ", "0 1;");
        stands("valley;apple 0 1 0;apple 0 1 0;biter 2 1;biter 2 1;bite 1 1;dip 0 1;", 7);
        fault("valley;apple 0 1 0;apple 0 1 0;biter 2 1;biter 2 1;bite ", "2 1;");
        fault("valley;apple 0 1 0;apple 0 1 0;biter 2 1;biter 2 1;bite 1 ", "2;");
        fault("valley;apple 0 1 0;apple 0 1 0;dip ", "2 1;");
        stands(SEVEN + "dip 6 1;", 9);
        fault(SEVEN + "dip ", "7 1;");
        stands(FOUR + "apple 0 1 0;bite 3 0;", 7);
        fault(FOUR + "apple 0 1 0;bite ", "4 0;");
    }

    /** "an APPLE that is OUT". */
    private static void isOut() {
        stands(ONE + "bite 0 0;", 4);
        fault(ONE + "bite 0 0;bite 0 ", "0;");
        fault(ONE + "bite 0 0;dip ", "0 1;");
        stands(ONE + "dip 0 1;bite 0 0;bite 0 0;", 6);
        fault(ONE + "dip 0 1;bite 0 0;bite 0 0;bite 0 ", "0;");
        // STUCK is not OUT.
        stands("valley;apple 0 9 0;biter 0 1;bite 0 0;bite 0 0;dip 0 1;", 6);
    }

    /** "figures (1 or 2 are one number)", "a run of three figures or more (at its first one)". */
    private static void runsOfFigures() {
        stands("valley;days 01;", 2);
        stands("valley;apple 05 01 00;biter 00 09;damp 04 03;", 4);
        fault("valley;days ", "001;");
        fault("valley;days ", "0000001;");
        fault("valley;days ", "100;");
        fault("valley;apple ", "001 1 0;");
        fault("valley;apple 0 ", "001 0;");
        fault("valley;days 1 ", "1;");
        fault("valley;days 10 ", "0;");
        ToffeeWords x = new ToffeeWords();
        Fair.read(x, "valley;days 07;days 70;");
        Due.due("07 is 7, 70 is 70", x.count(2), 77);
    }

    /** "blanks (32) between". */
    private static void blanks() {
        stands("   valley   ;   days   1   ;   ", 2);
        stands("valley;days1;", 2);
        stands("valley;apple 0 1 0;biter 2 1;bite 0 0;", 4);
        fault("", "val ley;");
        fault("valley;", "da ys 1;");
        fault("valley;days 1 ", "0;");
        fault("valley;apple ", "010;");
        fault("valley", "\t;");
        fault("valley;", "\n");
        fault("", "valleydays;");
    }

    /** "a TEXT (150 bytes at most)". */
    private static void at150Bytes() {
        String most = "valley;" + "days 1;".repeat(20) + " ; ";
        Due.due("150 bytes", most.length(), 150);
        faultAt(most, 148);
        faultAt(";".repeat(150), 0);
        faultAt("valley" + ";".repeat(144), 7);
        faultAt("valley;" + "#".repeat(143), 7);
        faultAt("valley;damp" + " 1".repeat(69) + ";", 24);
        faultAt("v".repeat(150), 0);
        faultAt("1".repeat(150), 0);
        faultAt("valley;days " + "1".repeat(138), 12);
        stands("valley;" + "days 1;".repeat(20) + "   ", 21);
        String whole = "valley ; " + "days 1;".repeat(20) + " ";
        stands(whole, 21);
        ToffeeWords x = new ToffeeWords();
        Fair.type(x, "valley;" + " ".repeat(142));
        Due.due("the 150th byte", x.type(' '), 150);
        Due.due("the 151st", x.type('#'), FULL);
        Due.due("it has not come", x.read(), 1);
        Due.due("150 were there", x.clear(), 150);
        Due.due("the first one again", x.type('v'), 1);
    }

    /** "DAYS (999 at most)", in THE TEXT too. */
    private static void lastDay() {
        ToffeeWords x = new ToffeeWords();
        String ten = "valley;apple 1 9 99;" + "days 99;".repeat(10);
        Due.due("day 990", Fair.read(x, ten), 12);
        Due.due("day 990", x.count(2), 990);
        Fair.read(x, ten + "days 8;");
        Due.due("day 998", x.count(2), 998);
        Fair.read(x, ten + "days 9;");
        Due.due("day 999", x.count(2), 999);
        Due.due("beyond it is no FAULT", Fair.read(x, ten + "days 99;days 1;"), 14);
        Due.due("day 999", x.count(2), 999);
        Due.due("an age of 999", x.of(0, 3), 999);
    }

    /** "the first TOKEN that can not stand there". */
    private static void firstFaultOfTwo() {
        faultAt("valley;days 0;#", 12);
        faultAt("valley;# days 0;", 7);
        faultAt("valley;bite 9 9;", 12);
        faultAt("valley;apple 6 31 100;", 13);
        faultAt("valley;apple 5 31 100;", 15);
        faultAt("valley;apple 5 30 100;", 18);
        faultAt("valley;apple 5 30 99", 20);
        faultAt("valley;dip 0 0;", 11);
    }

    /** "takes the place of all but IMAGES, THE TEXT, THE FRACTION, STATUS (LEFT ones, NOTES, MARKS none; nothing to undo)". */
    private static void takesThePlace() {
        ToffeeWords x = Fair.valley(7, 4);
        x.of(9, 9);
        x.undo();
        long above = x.part(0);
        long below = x.part(1);
        int bad = x.status(0);
        x.clear();
        Fair.type(x, "valley;damp 3;apple 3 9 2;biter 4 7;days 1;");
        Due.due("read", x.read(), 5);
        int[] due = {1, 1, 1, 1, 0, 0, 9, 0, 0, 0, 0, 43};
        for (int what = 0; what < due.length; what++) {
            Due.due("read: count " + what, x.count(what), due[what]);
        }
        int[] apple = {3, 9, 2, 1, 0, 4};
        for (int what = 0; what < apple.length; what++) {
            Due.due("read: of " + what, x.of(0, what), apple[what]);
        }
        Due.due("read: about", 10 * x.about(0, 0) + x.about(0, 1), 47);
        Due.due("THE FRACTION stays", x.part(0), above);
        Due.due("THE FRACTION stays", x.part(1), below);
        Due.due("STATUS stays", x.status(0), bad);
        Due.due("nothing to undo", x.undo(), NO);
        for (int d = 0; d < 6; d++) {
            Due.due("DAMP told, the others dry", x.damp(d, 0), d == 0 ? 3 : 0);
        }
        x.valley();
        Due.due("it can be read again", x.read(), 5);
        Due.due("it can be read again", x.count(2), 1);
        x.from(0);
        Due.due("IMAGES stay", x.count(0), 7);
        Due.due("and what they may undo", x.count(10), 5);
        Due.due("THE TEXT stays", x.count(11), 43);
    }

    /** "a word that is none": any letter of any word changed, left out, or one too many. */
    private static void everyLetter() {
        for (String item : new String[] {"damp 1;", "apple 0 1 0;", "biter 2 1;", "bite 0 0;", "dip 0 1;", "days 1;"}) {
            int letters = item.indexOf(' ');
            stands(ONE + item, 4);
            for (int i = 0; i < letters; i++) {
                fault(ONE, item.substring(0, i) + "x" + item.substring(i + 1));
                fault(ONE, item.substring(0, i) + "x" + item.substring(i));
                // What is left of biter without its last letter is a word of its own.
                boolean bite = item.substring(0, i).equals("bite");
                fault(bite ? ONE + "bite" : ONE, (bite ? "" : item.substring(0, i)) + "X" + item.substring(i + 1));
                fault(bite ? ONE + "bite " : ONE, bite ? "2 1;" : item.substring(0, i) + item.substring(i + 1));
            }
            fault(ONE, item.substring(0, letters) + "s" + item.substring(letters));
        }
        for (int i = 0; i < 6; i++) {
            faultAt("valley;".substring(0, i) + "x" + "valley;".substring(i + 1), 0);
            faultAt("valley;".substring(0, i) + "valley;".substring(i + 1), 0);
        }
    }

    /** Each ITEM does what its call does: the same numbers in the same places. */
    private static void whatItemsDo() {
        ToffeeWords x = new ToffeeWords();
        Due.due("items", Fair.read(x, "valley;damp 4 3 2 1 0 1;apple 1 20 33;apple 2 19 44;biter 2 9;biter 4 7;bite 1 0;bite 0 1;dip 0 7;days 5;damp 0 2;dip 1 6;"), 12);
        ToffeeWords y = new ToffeeWords();
        y.apple(1, 20, 33);
        y.apple(2, 19, 44);
        y.biter(2, 9);
        y.biter(4, 7);
        int[] w = {4, 3, 2, 1, 0, 1};
        for (int d = 0; d < 6; d++) {
            y.damp(d, w[d]);
        }
        Due.due("7 less 5, and 1", y.bites(1, 0), 3);
        Due.due("9 less 5", y.bites(0, 1), 4);
        Due.due("17 and 7", y.dips(0, 7), 24);
        y.days(5);
        Due.due("15 and 6", y.dips(1, 6), 21);
        y.damp(0, 0);
        y.damp(1, 2);
        String text = " ".repeat(x.count(11));
        Fair.type(y, text);
        Due.due("alike", x.digest(), y.digest());
    }

    /** "-10 less the FAULT: all stays": also what was read last, and what was undone in it since. */
    private static void faultBehindAReading() {
        ToffeeWords x = new ToffeeWords();
        Fair.read(x, "valley;apple 3 9 2;biter 4 7;days 4;");
        x.days(1);
        x.clear();
        Fair.type(x, "valley;apple 0 1 0;damp 4;days 2;#");
        long then = x.digest();
        for (int i = 0; i < 3; i++) {
            Due.due("FAULT", x.read(), -43);
            Due.due("all stays", x.digest(), then);
        }
        Due.due("the day may be undone", x.undo(), 4);
        Due.due("kind", x.of(0, 0), 3);
        Due.due("read", Fair.read(x, "valley;days 3;"), 2);
        Due.due("read", x.count(2), 3);
        Due.due("FAULT", Fair.read(x, "valley;days 9;days"), -28);
        Due.due("all stays", x.count(2), 3);
    }
}
