import java.math.BigInteger;

/** One method a promise: ordinary inputs, the edges that the document names, wrong inputs. Numbers worked out by hand. */
public final class PromisesTest {
    private static final int NONE = -1, BAD = -2, NO = -3, FULL = -4, LOW = Integer.MIN_VALUE, HIGH = Integer.MAX_VALUE;

    private static void due(String what, long got, long want) {
        Due.due(what, got, want);
    }

    private static int type(ToffeeWords x, String text) {
        int last = 0;
        for (int i = 0; i < text.length(); i++) {
            last = x.type(text.charAt(i));
        }
        return last;
    }

    private static int read(ToffeeWords x, String text) {
        x.clear();
        type(x, text);
        return x.read();
    }

    private static void fault(String text, int place) {
        ToffeeWords x = new ToffeeWords();
        x.apple(0, 3, 4);
        x.days(1);
        int answer = read(x, text);
        due("fault of '" + text + "'", answer, -10 - place);
        due("all stays behind a fault: apples", x.count(0), 1);
        due("all stays behind a fault: toffee", x.of(0, 1), 3);
        due("all stays behind a fault: undo", x.count(10), 1);
        due("a fault is no refusal", x.status(0) + x.status(1) + x.status(2), 0);
    }

    private static void refused(ToffeeWords x, int bad, int no, int full) {
        due("refused as BAD", x.status(0), bad);
        due("refused as NO", x.status(1), no);
        due("refused as FULL", x.status(2), full);
    }

    public static void main(String[] args) {
        p1New();
        p2Valley();
        p3Damp();
        p4Apple();
        p5Biter();
        p6Type();
        p7Clear();
        p8Read();
        p8Faults();
        p9Days();
        p9LastDay();
        p10Bites();
        p11Dips();
        p12Undo();
        p13Of();
        p13KindsOfApples();
        p14About();
        p15Hard();
        p16Takes();
        p16KindsOfBiters();
        p17Stuck();
        p18When();
        p19Few();
        p20Feast();
        p21Left();
        p22On();
        p23Note();
        p24Mark();
        p25Forget();
        p26Is();
        p27Look();
        p28Kinds();
        p29Ask();
        p30Pair();
        p31Wasps();
        p32Augusts();
        p33Part();
        p34Image();
        p35From();
        p36Status();
        p37Count();
        p38Digest();
        Due.end();
    }

    private static void p1New() {
        ToffeeWords x = new ToffeeWords();
        for (int what = 0; what <= 11; what++) {
            due("new: count " + what, x.count(what), 0);
        }
        due("new: above", x.part(0), 0);
        due("new: below", x.part(1), 1);
        for (int d = 0; d < 6; d++) {
            due("new: damp", x.damp(d, 0), 0);
        }
        due("new: no image 0", x.from(0), NO);
        due("new: no image 1", x.from(1), NO);
        refused(new ToffeeWords(), 0, 0, 0);
    }

    private static void p2Valley() {
        ToffeeWords x = new ToffeeWords();
        due("valley of none", x.valley(), 0);
        x.damp(2, 3);
        x.apple(0, 5, 0);
        x.apple(1, 5, 0);
        x.biter(0, 9);
        x.left(0, 0, 0, 0, 0);
        x.note(0, 1, 0, 0, 0);
        x.mark(0, 1, 0, 0);
        x.days(2);
        x.wasps(5);
        x.image(0);
        type(x, "ab");
        x.of(9, 9);
        due("valley of two", x.valley(), 2);
        for (int what = 0; what <= 10; what++) {
            due("valley: count " + what, x.count(what), 0);
        }
        due("valley: dry again", x.damp(2, 0), 0);
        due("valley: THE TEXT stays", x.count(11), 2);
        due("valley: THE FRACTION stays (two of 5 less 3, 4 less 3 if robbed)", x.part(0), 3);
        due("valley: STATUS stays", x.status(0), 1);
        due("valley: IMAGES stay", x.from(0), 1);
        due("valley: IMAGES stay", x.count(0), 2);
        x.valley();
        x.apple(0, 4, 0);
        due("a new apple's age", x.of(0, 3), 0);
    }

    private static void p3Damp() {
        ToffeeWords x = new ToffeeWords();
        due("damp", x.damp(0, 4), 0);
        due("damp", x.damp(0, 1), 4);
        due("damp", x.damp(5, 2), 0);
        due("damp, wrong day", x.damp(6, 0), BAD);
        due("damp, wrong day", x.damp(-1, 0), BAD);
        due("damp too wet", x.damp(0, 5), BAD);
        due("damp too dry", x.damp(0, -1), BAD);
        due("damp", x.damp(LOW, HIGH), BAD);
        due("damp stays behind BAD", x.damp(0, 1), 1);
        refused(x, 5, 0, 0);
        x.apple(0, 9, 0);
        due("hard on day 0", x.hard(0, 0), 8);
        due("hard on day 5", x.hard(0, 5), 7);
        due("hard on day 6, as on day 0", x.hard(0, 6), 8);
        x.days(1);
        due("damp: refused, undo stays", x.damp(9, 9), BAD);
        due("one to undo", x.count(10), 1);
        x.damp(0, 1);
        due("behind a damp told none may be undone", x.undo(), NO);
    }

    private static void p4Apple() {
        ToffeeWords x = new ToffeeWords();
        due("apple", x.apple(-1, 1, 0), BAD);
        due("apple", x.apple(6, 1, 0), BAD);
        due("apple", x.apple(0, 0, 0), BAD);
        due("apple", x.apple(0, 31, 0), BAD);
        due("apple", x.apple(0, 1, -1), BAD);
        due("apple", x.apple(0, 1, 100), BAD);
        for (int i = 0; i < 7; i++) {
            due("apple " + i, x.apple(5 - i % 6, i % 2 == 0 ? 1 : 30, i % 2 == 0 ? 99 : 0), i);
        }
        due("an 8th apple", x.apple(0, 1, 0), FULL);
        due("an 8th apple that is BAD", x.apple(0, 0, 0), BAD);
        refused(x, 7, 0, 1);
        due("seven apples", x.count(0), 7);
        due("kind of 0", x.of(0, 0), 5);
        due("term of 0", x.of(0, 2), 99);
        ToffeeWords y = new ToffeeWords();
        y.apple(0, 1, 0);
        y.days(1);
        y.apple(0, 1, 0);
        due("behind an apple none may be undone", y.undo(), NO);
        due("its own age", y.of(1, 3), 0);
        due("the elder's age", y.of(0, 3), 1);
    }

    private static void p5Biter() {
        ToffeeWords x = new ToffeeWords();
        due("biter", x.biter(-1, 1), BAD);
        due("biter", x.biter(6, 1), BAD);
        due("biter", x.biter(0, 0), BAD);
        due("biter", x.biter(0, 10), BAD);
        for (int i = 0; i < 4; i++) {
            due("biter " + i, x.biter(i + 2, i == 0 ? 1 : 9), i);
        }
        due("a 5th biter", x.biter(0, 1), FULL);
        due("a 5th biter that is BAD", x.biter(0, 10), BAD);
        refused(x, 5, 0, 1);
        ToffeeWords y = new ToffeeWords();
        y.days(1);
        y.biter(0, 1);
        due("behind a biter none may be undone", y.undo(), NO);
        y.days(1);
        y.biter(0, 0);
        due("behind a refused one it may", y.undo(), 1);
    }

    private static void p6Type() {
        ToffeeWords x = new ToffeeWords();
        due("type", x.type(-1), BAD);
        due("type", x.type(128), BAD);
        due("type", x.type(HIGH), BAD);
        for (int i = 1; i <= 150; i++) {
            due("type", x.type(i % 128), i);
        }
        due("a 151st byte", x.type(32), FULL);
        due("a 151st byte that is BAD", x.type(128), BAD);
        due("150 bytes", x.count(11), 150);
        refused(x, 4, 0, 1);
    }

    private static void p7Clear() {
        ToffeeWords x = new ToffeeWords();
        due("clear of none", x.clear(), 0);
        type(x, "valley;");
        due("clear", x.clear(), 7);
        due("cleared", x.count(11), 0);
        due("an empty one", x.read(), -10);
    }

    private static void p8Read() {
        ToffeeWords x = new ToffeeWords();
        x.apple(0, 5, 0);
        x.biter(0, 9);
        x.image(1);
        x.wasps(5);
        x.left(0, 0, 0, 0, 0);
        x.note(0, 1, 0, 0, 1);
        x.mark(0, 1, 0, 1);
        x.days(1);
        x.damp(4, 4);
        x.undo();
        due("read", read(x, "valley;"), 1);
        for (int what = 0; what <= 10; what++) {
            due("read: count " + what, x.count(what), 0);
        }
        due("read: dry", x.damp(4, 0), 0);
        due("read: THE TEXT stays", x.count(11), 7);
        due("read: THE FRACTION stays", x.part(0) * 10 + x.part(1), 92);
        due("read: STATUS stays", x.status(1), 1);
        due("read again", x.read(), 1);
        due("read: IMAGES stay", x.from(1), 1);
        due("read: IMAGES stay", x.count(1), 1);
        due("all items", read(x, "  valley ;damp 1 2 3 4 0 1;apple 5 30 99;apple 0 07 00 ; biter 0 8;bite 0 1;dip 0 9;dip 1 9;days 99;days 1;"), 10);
        due("8 less 6 off 7, and 9", x.of(1, 1), 14);
        due("day", x.count(2), 100);
        due("damp 3", x.damp(3, 4), 4);
        due("damp 5", x.damp(5, 1), 1);
        due("kind", x.of(0, 0), 5);
        due("30 at most", x.of(0, 1), 30);
        due("term", x.of(0, 2), 99);
        due("age", x.of(0, 3), 100);
        due("9 less 6, a bride's 1, twice: all of 6", read(x, "valley;apple 0 6 0;biter 5 9;bite 0 0;"), 4);
        due("kept", x.of(0, 4), 1);
        due("broken", read(x, "valley;apple 0 1 2;biter 2 1;days 1;bite 0 0;"), 5);
        due("broken", x.of(0, 4), 2);
        due("kept at its term", read(x, "valley;apple 0 1 2;biter 2 1;days 2;bite 0 0;"), 5);
        due("kept", x.of(0, 4), 1);
        due("a damp of one day", read(x, "valley;damp 1 2 3;damp 4;"), 3);
        due("first day anew", x.damp(0, 0), 4);
        due("second day stays", x.damp(1, 0), 2);
        due("words and figures need no blank", read(x, "valley;days1;"), 2);
        due("7 apples", read(x, "valley;apple 0 1 0;apple 0 1 0;apple 0 1 0;apple 0 1 0;apple 0 1 0;apple 0 1 0;apple 0 1 0;"), 8);
        due("blanks to the end", read(x, "valley;" + " ".repeat(143)), 1);
        due("4 biters", read(x, "valley;biter 0 1;biter 1 1;biter 2 1;biter 3 1;  "), 5);
        due("999 at most", read(x, "valley;days 99;days 99;days 99;days 99;days 99;days 99;days 99;days 99;days 99;days 99;days 8;days 2;days 99;"), 14);
        due("999", x.count(2), 999);
        due("nothing to undo", x.undo(), NO);
    }

    private static void p8Faults() {
        fault("", 0);
        fault("   ", 3);
        fault("vall", 0);
        fault(" valleys;", 1);
        fault("valleyz;", 0);
        fault("valleya;", 0);
        fault(";".repeat(150), 0);
        fault("valley;" + "; ".repeat(71) + ";", 7);
        fault("damp 1;", 0);
        fault(";valley;", 0);
        fault("1 valley;", 0);
        fault("valley", 6);
        fault("valley  ", 8);
        fault("valley 1;", 7);
        fault("valley damp", 7);
        fault("valley;;", 7);
        fault("valley;valley;", 7);
        fault("valley; 7;", 8);
        fault("valley;Damp 1;", 7);
        fault("valley;damps 1;", 7);
        fault("valley;dam", 7);
        fault("valley;damp", 11);
        fault("valley;damp;", 11);
        fault("valley;damp 5;", 12);
        fault("valley;damp 0 1 2 3 4 0", 23);
        fault("valley;damp 0 1 2 3 4 0 0;", 24);
        fault("valley;damp 0 1 2 3 4 0 999;", 24);
        fault("valley;damp 1 x;", 14);
        fault("valley;damp 1\t;", 13);
        fault("valley;apple 6 1 0;", 13);
        fault("valley;apple 0 0 0;", 15);
        fault("valley;apple 0 31 0;", 15);
        fault("valley;apple 0 1;", 16);
        fault("valley;apple 0 1 100;", 17);
        fault("valley;apple 0 1 0 0;", 19);
        fault("valley;apple 0 1 0", 18);
        fault("valley;apple 0 1 0;apple 0 1 0;apple 0 1 0;apple 0 1 0;apple 0 1 0;apple 0 1 0;apple 0 1 0;apple", 91);
        fault("valley;biter 6 1;", 13);
        fault("valley;biter 0 0;", 15);
        fault("valley;biter 0 10;", 15);
        fault("valley;biter 0;", 14);
        fault("valley;biter 0 1;biter 0 1;biter 0 1;biter 0 1;biter 0 1;", 47);
        fault("valley;bite 0 0;", 12);
        fault("valley;biter 0 1;bite 0 0;", 24);
        fault("valley;biter 0 1;apple 0 1 0;bite 1 0;", 34);
        fault("valley;biter 2 1;apple 0 1 0;bite 0 0;bite 0 0;", 45);
        fault("valley;biter 2 1;apple 0 1 0;bite 0 0;dip 0 1;", 42);
        fault("valley;apple 0 1 0;dip 1 1;", 23);
        fault("valley;apple 0 1 0;dip 0 0;", 25);
        fault("valley;apple 0 1 0;dip 0 10;", 25);
        fault("valley;apple 0 1 0;dip 0;", 24);
        fault("valley;days 0;", 12);
        fault("valley;days 100;", 12);
        fault("valley;days 001;", 12);
        fault("valley;days ;", 12);
        fault("valley;days 1 2;", 14);
        fault("valley;days 1;-", 14);
        fault("valley;days 1;" + (char) 0, 14);
    }

    private static void p9Days() {
        ToffeeWords x = new ToffeeWords();
        due("days", x.days(0), BAD);
        due("days", x.days(61), BAD);
        due("days", x.days(-1), BAD);
        refused(x, 3, 0, 0);
        due("nobody there", x.days(60), 0);
        due("day 60", x.count(2), 60);
        x.apple(0, 1, 0);
        x.apple(0, 9, 0);
        x.biter(2, 1);
        x.days(2);
        x.bites(0, 0);
        due("one is OUT", x.days(3), 1);
        due("ages no more", x.of(0, 3), 2);
        due("ages", x.of(1, 3), 5);
        due("together one", x.count(10), 3);
        due("undone together", x.undo(), 62);
    }

    private static void p9LastDay() {
        ToffeeWords x = new ToffeeWords();
        x.apple(1, 9, 0);
        for (int i = 0; i < 16; i++) {
            x.days(60);
        }
        due("day 960", x.count(2), 960);
        due("to the last one", x.days(60), 1);
        due("999", x.count(2), 999);
        due("age", x.of(0, 3), 999);
        due("8 may be undone", x.count(10), 8);
        x.dips(0, 1);
        due("none go by", x.days(1), 1);
        due("999 yet", x.count(2), 999);
        due("the dipping is the last one", x.undo(), 999);
        due("days ahead of it", x.undo(), 960);
        due("age then", x.of(0, 3), 960);
        x.days(39);
        x.damp(0, 4);
        due("day 1002 in hard", x.hard(0, 3), 11);
    }

    private static void p10Bites() {
        ToffeeWords x = new ToffeeWords();
        due("none there", x.bites(0, 0), BAD);
        x.apple(0, 5, 2);
        due("no biter", x.bites(0, 0), BAD);
        x.biter(0, 7);
        due("bites", x.bites(0, 1), BAD);
        due("bites", x.bites(1, 0), BAD);
        due("bites", x.bites(-1, 0), BAD);
        due("bites", x.bites(0, -1), BAD);
        due("7 less 5", x.bites(0, 0), 2);
        due("3 on", x.of(0, 1), 3);
        due("what is on at most", x.bites(0, 0), 3);
        due("broken", x.of(0, 4), 2);
        due("OUT", x.bites(0, 0), NO);
        due("BAD first", x.bites(4, 0), BAD);
        refused(x, 7, 1, 0);
        due("three may not be undone, two may", x.count(10), 2);
        ToffeeWords y = new ToffeeWords();
        y.apple(0, 9, 0);
        y.biter(0, 1);
        due("stuck", y.bites(0, 0), 0);
        due("stuck, it may be undone", y.count(10), 1);
        due("not OUT", y.of(0, 4), 0);
    }

    private static void p11Dips() {
        ToffeeWords x = new ToffeeWords();
        due("none there", x.dips(0, 1), BAD);
        x.apple(0, 1, 0);
        x.biter(2, 1);
        due("dips", x.dips(0, 0), BAD);
        due("dips", x.dips(0, 10), BAD);
        due("dips", x.dips(-1, 1), BAD);
        due("dips", x.dips(0, 9), 10);
        due("dips", x.dips(0, 9), 19);
        due("dips", x.dips(0, 9), 28);
        due("30 at most", x.dips(0, 9), 30);
        due("30 yet", x.dips(0, 1), 30);
        due("each may be undone", x.count(10), 5);
        x.apple(0, 1, 0);
        x.bites(0, 1);
        due("OUT", x.dips(1, 1), NO);
        due("BAD first", x.dips(1, 0), BAD);
        refused(x, 5, 1, 0);
    }

    private static void p12Undo() {
        ToffeeWords x = new ToffeeWords();
        due("none", x.undo(), NO);
        x.apple(0, 3, 5);
        x.biter(2, 5);
        x.days(4);
        x.bites(0, 0);
        x.dips(0, 2);
        x.bites(0, 0);
        x.bites(0, 0);
        due("OUT, broken", x.of(0, 4), 2);
        due("undo the last bite", x.undo(), 4);
        due("not OUT", x.of(0, 4), 0);
        due("1 on", x.of(0, 1), 1);
        x.undo();
        due("3 on", x.of(0, 1), 3);
        x.undo();
        due("1 on", x.of(0, 1), 1);
        x.undo();
        due("3 on", x.of(0, 1), 3);
        due("the day then", x.undo(), 0);
        due("age", x.of(0, 3), 0);
        due("no more", x.undo(), NO);
        refused(x, 0, 2, 0);
        for (int i = 0; i < 9; i++) {
            x.days(1 + i);
        }
        due("8 at most", x.count(10), 8);
        due("day", x.undo(), 36);
        for (int i = 0; i < 6; i++) {
            x.undo();
        }
        due("the eighth", x.undo(), 1);
        due("the ninth is gone", x.undo(), NO);
        x.days(1);
        x.note(0, 1, 0, 0, 1);
        due("notes are not undone", x.undo(), 1);
        due("notes are not undone", x.count(8), 1);
    }

    private static void p13Of() {
        ToffeeWords x = new ToffeeWords();
        due("of none", x.of(0, 0), BAD);
        x.apple(4, 12, 34);
        x.biter(2, 1);
        due("of", x.of(0, -1), BAD);
        due("of", x.of(0, 6), BAD);
        due("of", x.of(1, 0), BAD);
        refused(x, 4, 0, 0);
        x.days(9);
        due("kind", x.of(0, 0), 4);
        due("toffee", x.of(0, 1), 12);
        due("term", x.of(0, 2), 34);
        due("age", x.of(0, 3), 9);
        due("not out", x.of(0, 4), 0);
        due("hard: 9 and 2 and 5", x.of(0, 5), 16);
        for (int i = 0; i < 12; i++) {
            x.bites(0, 0);
        }
        due("broken", x.of(0, 4), 2);
        due("OUT: 0", x.of(0, 1), 0);
        due("OUT: 0 and 2 and 5", x.of(0, 5), 7);
    }

    private static int hardOf(int kind, int toffee, int age, int damp) {
        ToffeeWords x = new ToffeeWords();
        for (int d = 0; d < 6; d++) {
            x.damp(d, damp);
        }
        x.apple(kind, toffee, 0);
        int first = Math.min(60, age);
        if (first > 0) {
            x.days(first);
        }
        return x.hard(0, age - first);
    }

    private static void p13KindsOfApples() {
        due("RED", hardOf(0, 9, 0, 0), 9);
        due("RED 9 at most", hardOf(0, 10, 50, 0), 9);
        due("RED less damp", hardOf(0, 30, 0, 4), 5);
        due("RED 0 at least", hardOf(0, 3, 0, 4), 0);
        due("BROWN", hardOf(1, 5, 3, 1), 4);
        due("BROWN", hardOf(1, 5, 4, 1), 5);
        due("BROWN", hardOf(1, 5, 23, 1), 9);
        due("BROWN", hardOf(1, 5, 24, 1), 10);
        due("BROWN 6 at most of these", hardOf(1, 5, 100, 1), 10);
        due("BROWN on RED's 0", hardOf(1, 1, 8, 4), 2);
        due("GREEN", hardOf(2, 9, 2, 0), 9);
        due("GREEN", hardOf(2, 9, 3, 0), 8);
        due("GREEN", hardOf(2, 9, 26, 0), 1);
        due("GREEN 0 at least", hardOf(2, 9, 60, 0), 0);
        due("WINDFALL", hardOf(3, 9, 0, 0), 4);
        due("WINDFALL", hardOf(3, 9, 6, 0), 3);
        due("WINDFALL", hardOf(3, 9, 0, 2), 3);
        due("GREAT", hardOf(4, 9, 24, 0), 20);
        due("GREAT", hardOf(4, 1, 0, 4), 5);
        due("ALL", hardOf(5, 9, 0, 0), 18);
        due("ALL", hardOf(5, 9, 4, 0), 20);
        due("ALL 20 at most", hardOf(5, 9, 24, 0), 20);
        due("ALL", hardOf(5, 4, 9, 1), 10);
    }

    private static void p14About() {
        ToffeeWords x = new ToffeeWords();
        due("about none", x.about(0, 0), BAD);
        x.biter(5, 7);
        due("kind", x.about(0, 0), 5);
        due("teeth", x.about(0, 1), 7);
        due("about", x.about(0, 2), BAD);
        due("about", x.about(0, -1), BAD);
        due("about", x.about(1, 0), BAD);
        due("about", x.about(-1, 0), BAD);
        refused(x, 5, 0, 0);
    }

    private static void p15Hard() {
        ToffeeWords x = new ToffeeWords();
        due("hard of none", x.hard(0, 0), BAD);
        x.damp(1, 2);
        x.damp(4, 1);
        x.apple(1, 5, 0);
        x.apple(1, 1, 0);
        x.biter(2, 1);
        due("hard", x.hard(0, -1), BAD);
        due("hard", x.hard(0, 61), BAD);
        due("hard", x.hard(2, 0), BAD);
        refused(x, 4, 0, 0);
        due("now", x.hard(0, 0), 5);
        due("damp", x.hard(0, 1), 3);
        due("older and damp", x.hard(0, 4), 5);
        due("60", x.hard(0, 60), 11);
        due("nothing is changed", x.count(2), 0);
        x.days(3);
        due("day 7: 4 and 3, less 2 for the damp of 1, 1 for an age of 7", x.hard(0, 4), 4);
        x.bites(0, 1);
        x.days(2);
        due("OUT ages no more", x.hard(1, 60), 0);
        due("of", x.of(1, 3), 3);
    }

    private static void p16Takes() {
        ToffeeWords x = new ToffeeWords();
        due("none", x.takes(0, 0), BAD);
        x.apple(0, 4, 0);
        due("no biter", x.takes(0, 0), BAD);
        x.biter(5, 9);
        due("no apple 1", x.takes(0, 1), BAD);
        refused(x, 3, 0, 0);
        due("what is on at most", x.takes(0, 0), 4);
        due("nothing is changed", x.of(0, 1), 4);
        x.dips(0, 9);
        due("stuck", x.takes(0, 0), 0);
        x.damp(0, 2);
        due("9 less 7, 1, twice", x.takes(0, 0), 6);
        x.damp(0, 4);
        x.bites(0, 0);
        due("3 on", x.of(0, 1), 3);
        x.bites(0, 0);
        due("OUT", x.takes(0, 0), 0);
    }

    /** A GREEN one of 30 is 9 HARD and 1 less every 3 days. */
    private static int takesOf(int kind, int teeth, int hard) {
        ToffeeWords x = new ToffeeWords();
        x.apple(2, 30, 0);
        x.biter(kind, teeth);
        if (hard < 9) {
            x.days(3 * (9 - hard));
        }
        return x.takes(0, 0);
    }

    private static void p16KindsOfBiters() {
        due("PLAIN", takesOf(0, 9, 4), 5);
        due("PLAIN", takesOf(0, 4, 4), 0);
        due("PLAIN 0 at least", takesOf(0, 3, 9), 0);
        due("OLD", takesOf(1, 9, 4), 2);
        due("OLD", takesOf(1, 5, 4), 0);
        due("CHILD", takesOf(2, 9, 4), 5);
        due("CHILD 1 at least", takesOf(2, 1, 9), 1);
        due("WASP", takesOf(3, 9, 3), 6);
        due("WASP", takesOf(3, 9, 2), 9);
        due("WASP", takesOf(3, 1, 2), 3);
        due("WASP", takesOf(3, 1, 3), 1);
        due("BRIDE", takesOf(4, 9, 4), 6);
        due("BRIDE", takesOf(4, 5, 4), 2);
        due("BRIDE, if that is 1 or more", takesOf(4, 4, 4), 0);
        due("DUKE", takesOf(5, 9, 4), 12);
        due("DUKE", takesOf(5, 9, 0), 20);
        due("DUKE", takesOf(5, 4, 4), 0);
    }

    private static void p17Stuck() {
        ToffeeWords x = new ToffeeWords();
        due("none", x.stuck(0), BAD);
        x.apple(0, 5, 0);
        due("no biters", x.stuck(0), 0);
        x.biter(0, 5);
        x.biter(0, 6);
        x.biter(1, 6);
        x.biter(2, 1);
        due("0 and 2", x.stuck(0), 5);
        due("stuck", x.stuck(-1), BAD);
        due("stuck", x.stuck(1), BAD);
        refused(x, 3, 0, 0);
        for (int i = 0; i < 5; i++) {
            x.bites(3, 0);
        }
        due("OUT", x.stuck(0), 15);
    }

    private static void p18When() {
        ToffeeWords x = new ToffeeWords();
        due("none", x.when(0, 0), BAD);
        x.apple(2, 9, 0);
        x.apple(1, 9, 0);
        x.biter(0, 1);
        x.biter(0, 9);
        x.biter(2, 1);
        due("GREEN is 0 behind 27", x.when(0, 0), 27);
        due("8 behind 3", x.when(1, 0), 3);
        due("at once", x.when(2, 0), 0);
        due("BROWN never", x.when(1, 1), NONE);
        due("when", x.when(3, 0), BAD);
        due("when", x.when(0, 2), BAD);
        due("when", x.when(-1, -1), BAD);
        refused(x, 4, 0, 0);
        x.damp(5, 1);
        due("BROWN 9 and 1 less 1", x.when(1, 1), NONE);
        x.damp(2, 1);
        due("damp on day 2", x.when(1, 1), 2);
        due("GREEN: 9 less 1 (damp)", x.when(1, 0), 2);
        for (int i = 0; i < 9; i++) {
            x.bites(2, 0);
        }
        due("OUT", x.when(2, 0), NONE);
        ToffeeWords y = new ToffeeWords();
        y.apple(1, 9, 0);
        y.biter(0, 7);
        for (int i = 0; i < 6; i++) {
            y.days(60);
        }
        y.damp(1, 4);
        due("15 less 4 is too hard", y.when(0, 0), NONE);
    }

    private static void p19Few() {
        ToffeeWords x = new ToffeeWords();
        due("none there", x.few(0, NONE), -10);
        x.apple(0, 6, 0);
        due("nobody", x.few(0, NONE), -6);
        due("nobody, whatever k", x.few(0, 5), -6);
        x.biter(0, 6);
        due("stuck", x.few(0, NONE), -6);
        x.biter(2, 1);
        // 6 is bitten by the child alone, 5 by the plain one: 1 off; 4: 2 off; 2: 2 off. The child takes 1 always.
        due("6 5 4 2 0", x.few(0, NONE), 4);
        due("the child", x.few(0, 0), 1);
        due("the plain one comes first of like ones", x.few(0, 1), 0);
        due("the plain one", x.few(0, 2), 0);
        due("the plain one", x.few(0, 3), 0);
        due("not so many", x.few(0, 4), -5);
        due("not so many", x.few(0, HIGH), -5);
        due("few", x.few(0, -2), -10);
        due("few", x.few(1, 0), -10);
        due("few", x.few(-1, 0), -10);
        refused(x, 4, 0, 0);
        due("nothing is changed", x.of(0, 1), 6);
        for (int i = 0; i < 6; i++) {
            x.bites(1, 0);
        }
        due("OUT", x.few(0, NONE), 0);
        due("OUT", x.few(0, 0), -5);
        ToffeeWords y = new ToffeeWords();
        y.apple(5, 30, 0);
        y.biter(2, 1);
        due("30", y.few(0, NONE), 30);
        due("the 30th", y.few(0, 29), 0);
        due("no 31st", y.few(0, 30), -5);
    }

    private static void p20Feast() {
        ToffeeWords x = new ToffeeWords();
        due("nobody", x.feast(NONE), 0);
        due("nobody", x.feast(0), -10);
        x.apple(0, 9, 0);
        x.apple(0, 3, 0);
        x.biter(0, 4);
        x.biter(0, 5);
        x.biter(0, 1);
        // 4 takes 1 off the 3, then 5 takes the 2 left: 3; the third finds nothing.
        due("how much", x.feast(NONE), 3);
        due("first", x.feast(0), NONE + 2);
        due("second", x.feast(1), 1);
        due("third bites none", x.feast(2), NONE);
        due("feast", x.feast(3), -10);
        due("feast", x.feast(-2), -10);
        refused(x, 3, 0, 0);
        due("nothing is changed", x.count(6), 12);
        ToffeeWords y = new ToffeeWords();
        y.apple(0, 2, 0);
        y.biter(0, 9);
        y.biter(0, 9);
        due("how much", y.feast(NONE), 2);
        due("none comes first", y.feast(0), NONE);
        due("so the second bites", y.feast(1), 0);
        ToffeeWords z = new ToffeeWords();
        z.apple(0, 8, 0);
        z.apple(0, 9, 0);
        z.apple(0, 8, 0);
        z.biter(0, 9);
        z.biter(2, 1);
        z.biter(0, 9);
        // 9 takes 1 off an 8, the child 1 off its 7, the other 9 then 3 off what is 6 yet.
        due("how much", z.feast(NONE), 5);
        due("first", z.feast(0), 0);
        due("the child", z.feast(1), 0);
        due("last", z.feast(2), 0);
    }

    private static void p21Left() {
        ToffeeWords x = new ToffeeWords();
        due("none there", x.left(0, 0, 0, 0, 0), BAD);
        x.apple(0, 1, 0);
        due("no biter", x.left(0, 0, 0, 0, 0), BAD);
        x.biter(0, 1);
        due("left", x.left(1, 0, 0, 0, 0), BAD);
        due("left", x.left(0, 1, 0, 0, 0), BAD);
        due("left", x.left(0, 0, -1, 0, 0), BAD);
        due("left", x.left(0, 0, 5, 0, 0), BAD);
        due("left", x.left(0, 0, 0, -1, 0), BAD);
        due("left", x.left(0, 0, 0, 100, 0), BAD);
        due("left", x.left(0, 0, 0, 0, -1), BAD);
        due("left", x.left(0, 0, 0, 0, 31), BAD);
        x.days(1);
        for (int i = 1; i <= 5; i++) {
            due("left", x.left(0, 0, 4, 99, 30), i);
        }
        due("a 6th", x.left(0, 0, 0, 0, 0), FULL);
        due("a 6th that is BAD", x.left(0, 0, 5, 0, 0), BAD);
        refused(x, 11, 0, 1);
        due("left ones", x.count(7), 5);
        due("it may be undone yet", x.count(10), 1);
    }

    private static void p22On() {
        ToffeeWords x = new ToffeeWords();
        due("none there", x.on(0, 0), BAD);
        x.apple(0, 1, 0);
        x.apple(2, 1, 0);
        x.biter(0, 9);
        x.biter(2, 1);
        due("on", x.on(0, -1), BAD);
        due("on", x.on(0, 3), BAD);
        due("on", x.on(2, 0), BAD);
        refused(x, 4, 0, 0);
        due("all", x.on(0, 0), 30);
        due("least", x.on(0, 1), 1);
        due("greatest", x.on(0, 2), 30);
        x.left(0, 0, 0, 0, 0);
        // t at most 9 less t: 1 to 4.
        due("four", x.on(0, 0), 4);
        due("least", x.on(0, 1), 1);
        due("greatest", x.on(0, 2), 4);
        x.left(0, 1, 0, 50, 1);
        due("two it was, alike each time", x.on(0, 0), 1);
        due("two", x.on(0, 1), 2);
        due("two", x.on(0, 2), 2);
        due("another one's are apart", x.on(1, 0), 30);
        x.left(0, 1, 0, 0, 2);
        due("none fits", x.on(0, 0), 0);
        due("none fits", x.on(0, 1), NONE);
        due("none fits", x.on(0, 2), NONE);
        x.left(1, 0, 4, 12, 20);
        // GREEN, 9 less 4 less 4 is 1: 8 come off.
        due("28", x.on(1, 0), 1);
        due("28", x.on(1, 1), 28);
    }

    private static void p23Note() {
        ToffeeWords x = new ToffeeWords();
        due("none there", x.note(0, 1, 0, 0, 0), BAD);
        x.apple(0, 1, 0);
        due("note", x.note(1, 1, 0, 0, 0), BAD);
        due("note", x.note(0, 0, 0, 0, 0), BAD);
        due("note", x.note(0, 31, 0, 0, 0), BAD);
        due("note", x.note(0, 1, -1, 0, 0), BAD);
        due("note", x.note(0, 1, 100, 0, 0), BAD);
        due("note", x.note(0, 1, 0, -1, 0), BAD);
        due("note", x.note(0, 1, 0, 5, 0), BAD);
        due("note", x.note(0, 1, 0, 0, -1), BAD);
        due("note", x.note(0, 1, 0, 0, 31), BAD);
        for (int i = 1; i <= 6; i++) {
            due("note", x.note(0, 30, 99, 4, 30), i);
        }
        due("a 7th", x.note(0, 1, 0, 0, 0), FULL);
        due("a 7th that is BAD", x.note(0, 0, 0, 0, 0), BAD);
        refused(x, 11, 0, 1);
    }

    private static void p24Mark() {
        ToffeeWords x = new ToffeeWords();
        due("none there", x.mark(0, 1, 0, 0), BAD);
        x.biter(0, 1);
        due("mark", x.mark(1, 1, 0, 0), BAD);
        due("mark", x.mark(0, 0, 0, 0), BAD);
        due("mark", x.mark(0, 10, 0, 0), BAD);
        due("mark", x.mark(0, 1, -1, 0), BAD);
        due("mark", x.mark(0, 1, 31, 0), BAD);
        due("mark", x.mark(0, 1, 0, -1), BAD);
        due("mark", x.mark(0, 1, 0, 41), BAD);
        for (int i = 1; i <= 6; i++) {
            due("mark", x.mark(0, 9, 30, 40), i);
        }
        due("a 7th", x.mark(0, 1, 0, 0), FULL);
        due("a 7th that is BAD", x.mark(0, 1, 0, 41), BAD);
        refused(x, 9, 0, 1);
    }

    private static void p25Forget() {
        ToffeeWords x = new ToffeeWords();
        x.apple(0, 1, 0);
        x.biter(0, 1);
        x.left(0, 0, 0, 0, 0);
        x.note(0, 1, 0, 0, 0);
        x.note(0, 1, 0, 0, 0);
        x.mark(0, 1, 0, 0);
        x.mark(0, 1, 0, 0);
        x.mark(0, 1, 0, 0);
        due("left ones", x.forget(0), 1);
        due("none", x.count(7), 0);
        due("two yet", x.count(8), 2);
        due("notes", x.forget(1), 2);
        due("none", x.count(8), 0);
        due("three yet", x.count(9), 3);
        due("marks", x.forget(2), 3);
        due("none", x.forget(2), 0);
        due("forget", x.forget(3), BAD);
        due("forget", x.forget(-1), BAD);
        refused(x, 2, 0, 0);
    }

    private static void p26Is() {
        ToffeeWords x = new ToffeeWords();
        due("none there", x.is(0), BAD);
        x.apple(0, 1, 0);
        x.apple(5, 1, 0);
        due("is", x.is(2), BAD);
        due("is", x.is(-1), BAD);
        refused(x, 3, 0, 0);
        due("any", x.is(0), 63);
        // 4 at an age of 0: RED, BROWN, GREEN 4, WINDFALL 2, GREAT 9, ALL 8.
        x.note(0, 4, 0, 0, 4);
        due("RED, BROWN, GREEN", x.is(0), 7);
        x.note(0, 8, 12, 0, 8);
        due("RED", x.is(0), 1);
        due("the other one is apart", x.is(1), 63);
        x.note(1, 9, 3, 1, 3);
        due("WINDFALL", x.is(1), 8);
        x.note(1, 9, 3, 1, 4);
        due("none", x.is(1), 0);
    }

    private static void p27Look() {
        ToffeeWords x = new ToffeeWords();
        due("none there", x.look(0), BAD);
        x.apple(0, 9, 0);
        x.apple(0, 1, 0);
        x.biter(2, 1);
        due("look", x.look(2), BAD);
        due("look", x.look(-1), BAD);
        refused(x, 3, 0, 0);
        // RED 9, BROWN 9, GREEN 9 .. at first; behind 4 days 9, 10, 8, 4, 15, 20.
        due("all apart behind 4", x.look(0), 40);
        x.note(0, 4, 0, 0, 4);
        due("RED, BROWN, GREEN behind 4", x.look(0), 40);
        x.note(0, 4, 0, 0, 5);
        due("no KIND", x.look(0), NONE);
        x.forget(1);
        x.note(1, 8, 3, 0, 8);
        // RED or BROWN: apart behind 4 days.
        due("RED or BROWN", x.is(1), 3);
        due("apart behind 4", x.look(1), 40);
        x.forget(1);
        x.note(1, 30, 24, 0, 20);
        due("GREAT or ALL", x.is(1), 48);
        due("6 and 2 at once", x.look(1), 0);
        x.bites(0, 1);
        due("OUT: 1", x.look(1), 0);
        x.forget(1);
        x.note(1, 9, 0, 0, 9);
        x.note(1, 9, 4, 0, 10);
        due("one alone", x.look(1), 0);
        ToffeeWords y = new ToffeeWords();
        y.apple(0, 1, 0);
        y.biter(2, 1);
        int whole = y.look(0);
        y.bites(0, 0);
        due("OUT is looked at as 1", y.look(0), whole);
        due("30: 1 1 0 0 6 2 at an age of 3", whole, 30);
    }

    private static void p28Kinds() {
        ToffeeWords x = new ToffeeWords();
        due("none there", x.kinds(0), BAD);
        x.biter(0, 1);
        x.biter(0, 1);
        due("kinds", x.kinds(2), BAD);
        due("kinds", x.kinds(-1), BAD);
        refused(x, 3, 0, 0);
        due("any", x.kinds(0), 63);
        x.mark(0, 5, 3, 2);
        due("PLAIN, CHILD, WASP", x.kinds(0), 13);
        x.mark(0, 5, 2, 5);
        due("WASP", x.kinds(0), 8);
        due("the other one is apart", x.kinds(1), 63);
        x.mark(1, 5, 5, 0);
        due("PLAIN, OLD, BRIDE, DUKE", x.kinds(1), 51);
        x.mark(1, 5, 1, 2);
        due("OLD", x.kinds(1), 2);
        x.mark(1, 5, 1, 3);
        due("none", x.kinds(1), 0);
    }

    private static void p29Ask() {
        ToffeeWords x = new ToffeeWords();
        due("none there", x.ask(0), BAD);
        x.biter(0, 5);
        x.biter(0, 1);
        due("ask", x.ask(2), BAD);
        due("ask", x.ask(-1), BAD);
        refused(x, 3, 0, 0);
        // 5, 2, 5, 7, 6, 12: two alike; nowhere are all apart.
        due("at once", x.ask(0), 0);
        x.mark(0, 5, 5, 0);
        x.mark(0, 5, 3, 2);
        due("PLAIN alone", x.kinds(0), 1);
        due("one alone", x.ask(0), 0);
        x.forget(2);
        x.mark(1, 5, 3, 2);
        due("PLAIN, CHILD, WASP", x.kinds(1), 13);
        // Teeth 1: 0 hard: 1 1 3; 1 hard: 0 1 3.
        due("apart at 1", x.ask(1), 1);
        x.mark(1, 5, 3, 3);
        due("no KIND", x.ask(1), NONE);
    }

    private static void p30Pair() {
        ToffeeWords x = new ToffeeWords();
        x.apple(0, 5, 0);
        x.biter(0, 9);
        due("one alone", x.pair(0, 1, 0, NONE), -10);
        x.biter(0, 9);
        due("alike", x.pair(0, 0, 0, NONE), -10);
        due("pair", x.pair(-1, 1, 0, NONE), -10);
        due("pair", x.pair(0, 2, 0, NONE), -10);
        due("pair", x.pair(0, 1, 1, NONE), -10);
        due("pair", x.pair(0, 1, 0, -2), -10);
        refused(x, 6, 0, 0);
        // Each takes 4 on any day: 4 and half the day, if first; 2, if last; 3 on one day.
        // From one day d each would go one or two earlier for 4 and more, until 0 or 1; (1, 1): 0 is worth 4. (0, 0) rests.
        due("one", x.pair(0, 1, 0, NONE), 1);
        due("both at once", x.pair(0, 1, 0, 0), 0);
        due("not so many", x.pair(0, 1, 0, 1), -5);
        due("not so many", x.pair(0, 1, 0, HIGH), -5);
        ToffeeWords y = new ToffeeWords();
        y.apple(0, 9, 0);
        y.biter(0, 1);
        y.biter(2, 1);
        // The first takes nothing: i / 2 ahead, 0 behind, -1 on one day. The child takes 1: 1 and j / 2, 0 behind, 0 on one day.
        due("rests", y.pair(0, 1, 0, NONE), y.pair(1, 0, 0, NONE));
        due("how many", y.pair(0, 1, 0, NONE), 7);
        due("the first", y.pair(0, 1, 0, 0), 1);
        due("turned about", y.pair(1, 0, 0, 0), 1);
        due("nothing is changed", y.count(2) + y.count(10), 0);
        ToffeeWords z = new ToffeeWords();
        z.apple(0, 1, 0);
        z.biter(0, 9);
        z.biter(0, 9);
        // 8 come off, whatever is on: 8 and i / 2 ahead, 4 behind, 7 on one day, so nobody waits.
        due("whatever is on", z.pair(0, 1, 0, NONE), 1);
        z.bites(0, 0);
        due("OUT, too: 9, 4, 8", z.pair(0, 1, 0, NONE), 1);
        due("OUT, too", z.pair(0, 1, 0, 0), 0);
        ToffeeWords w = new ToffeeWords();
        w.apple(2, 1, 0);
        w.biter(2, 1);
        w.biter(2, 1);
        w.days(35);
        // 1 comes off: 1 and i / 2 ahead, 0 behind, 0 on one day. The days count from now on, not by their numbers.
        int[] rest = {0, 1, 2, 10, 20};
        due("five", w.pair(0, 1, 0, NONE), rest.length);
        for (int k = 0; k < rest.length; k++) {
            due("rising", w.pair(0, 1, 0, k), rest[k]);
        }
        due("no sixth", w.pair(0, 1, 0, 5), -5);
    }

    private static void wasps(ToffeeWords x, int c, int above, int below) {
        due("wasps", x.wasps(c), 1);
        due("above", x.part(0), above);
        due("below", x.part(1), below);
    }

    private static void p31Wasps() {
        ToffeeWords x = new ToffeeWords();
        due("wasps", x.wasps(-1), BAD);
        due("wasps", x.wasps(11), BAD);
        refused(x, 2, 0, 0);
        wasps(x, 7, 0, 1);
        x.apple(0, 5, 0);
        wasps(x, 0, 5, 1);
        wasps(x, 10, 4, 1);
        wasps(x, 5, 9, 2);
        wasps(x, 3, 47, 10);
        wasps(x, 4, 23, 5);
        x.apple(4, 1, 0);
        // GREAT with 1 on is 6, with none on it counts as 0.
        wasps(x, 10, 4, 1);
        wasps(x, 1, 103, 10);
        due("nothing is robbed", x.count(6), 6);
        x.biter(2, 1);
        x.bites(0, 1);
        wasps(x, 0, 5, 1);
        due("refused, THE FRACTION stays", x.wasps(11), BAD);
        due("stays", x.part(0), 5);
        x.dips(0, 9);
        wasps(x, 10, 9, 1);
        x.apple(0, 2, 0);
        wasps(x, 10, 10, 1);
        wasps(x, 9, 101, 10);
    }

    private static void p32Augusts() {
        ToffeeWords x = new ToffeeWords();
        due("augusts", x.augusts(-1, 0), BAD);
        due("augusts", x.augusts(1000000, 0), BAD);
        due("augusts", x.augusts(0, -1), BAD);
        due("augusts", x.augusts(0, 61), BAD);
        refused(x, 4, 0, 0);
        due("nobody", x.augusts(999999, 60), 0);
        // Seed 0: 12345 is biter 0, apple 0; then 1406932606: biter 0, apple 4 (21468 by 4, 1341 by 7).
        x.apple(0, 1, 0);
        x.biter(2, 1);
        due("none yet", x.augusts(0, 0), 0);
        due("the first day", x.augusts(0, 1), 1);
        due("nothing is changed", x.of(0, 4) + x.count(2), 0);
        due("nothing is to be undone", x.count(10), 0);
        x.bites(0, 0);
        due("those kept ahead of it, too", x.augusts(5, 0), 1);
        ToffeeWords y = new ToffeeWords();
        y.apple(0, 1, 1);
        y.biter(2, 1);
        due("the bite is ahead of the day: broken", y.augusts(0, 1), 0);
        ToffeeWords z = new ToffeeWords();
        for (int p = 0; p < 5; p++) {
            z.apple(0, 1, p == 4 ? 1 : 50);
        }
        for (int b = 0; b < 4; b++) {
            z.biter(2, 1);
        }
        due("the second day's", z.augusts(0, 2), 1);
        due("the second day's", z.augusts(0, 1), 0);
        due("60 days", z.augusts(0, 60), slowAugusts(60));
        for (int n = 0; n < 20; n++) {
            due("every day of it", z.augusts(0, n), slowAugusts(n));
        }
    }

    /** Five apples of 1, terms 50, the last one's 1, children for all: whoever is bitten is OUT at once. */
    private static int slowAugusts(int days) {
        BigInteger x = BigInteger.ZERO;
        boolean[] out = new boolean[7];
        int kept = 0;
        for (int day = 0; day < days; day++) {
            x = x.multiply(new BigInteger("1103515245")).add(new BigInteger("12345")).mod(new BigInteger("2147483648"));
            int p = x.divide(new BigInteger("1048576")).mod(BigInteger.valueOf(7)).intValue();
            if (p < 5 && !out[p]) {
                out[p] = true;
                kept += day >= (p == 4 ? 1 : 50) ? 1 : 0;
            }
        }
        return kept;
    }

    private static void p33Part() {
        ToffeeWords x = new ToffeeWords();
        due("above", x.part(0), 0);
        due("below", x.part(1), 1);
        due("part", x.part(2), BAD);
        due("part", x.part(-1), BAD);
        refused(x, 2, 0, 0);
        x.apple(0, 5, 0);
        x.wasps(2);
        due("above", x.part(0), 24);
        due("below", x.part(1), 5);
    }

    private static void p34Image() {
        ToffeeWords x = new ToffeeWords();
        due("image", x.image(-1), BAD);
        due("image", x.image(2), BAD);
        refused(x, 2, 0, 0);
        x.apple(0, 5, 0);
        due("image", x.image(0), 1);
        x.apple(0, 6, 0);
        due("image", x.image(1), 1);
        x.from(0);
        due("one", x.count(0), 1);
        x.from(1);
        due("two", x.count(0), 2);
        x.apple(0, 6, 0);
        due("again", x.image(0), 1);
        x.valley();
        x.from(0);
        due("three", x.count(0), 3);
    }

    private static void p35From() {
        ToffeeWords x = new ToffeeWords();
        due("from", x.from(-1), BAD);
        due("from", x.from(2), BAD);
        due("from", x.from(0), NO);
        refused(x, 2, 1, 0);
        x.damp(1, 2);
        x.apple(1, 9, 3);
        x.biter(4, 5);
        x.left(0, 0, 1, 2, 3);
        x.note(0, 1, 2, 3, 4);
        x.mark(0, 1, 2, 3);
        x.days(2);
        x.dips(0, 3);
        x.image(0);
        due("only that one was kept", x.from(1), NO);
        long then = x.digest();
        x.bites(0, 0);
        x.days(9);
        x.damp(1, 0);
        x.forget(0);
        x.forget(1);
        x.forget(2);
        x.wasps(4);
        type(x, "valley;");
        x.read();
        due("from", x.from(0), 1);
        due("THE TEXT stays", x.clear(), 7);
        due("THE FRACTION stays", x.part(0) != 0 || x.part(1) == 1 ? 1 : 0, 1);
        x.image(1);
        x.valley();
        x.wasps(0);
        x.from(1);
        due("all is as it was", x.digest(), then);
        due("what may be undone", x.count(10), 2);
        due("it may be undone", x.undo(), 2);
        due("9 on", x.of(0, 1), 9);
        due("it may be undone", x.undo(), 0);
        x.dips(0, 1);
        x.from(0);
        due("the image is as it was", x.digest(), then);
        due("STATUS stays", x.status(1), 2);
    }

    private static void p36Status() {
        ToffeeWords x = new ToffeeWords();
        due("status", x.status(3), -1);
        due("counts as BAD", x.status(0), 1);
        due("status", x.status(-1), -1);
        due("status", x.status(LOW), -1);
        due("counts as BAD", x.status(0), 3);
        x.few(0, 0);
        x.feast(0);
        x.pair(0, 0, 0, 0);
        due("-10 counts as BAD", x.status(0), 6);
        x.apple(0, 9, 0);
        x.biter(0, 1);
        x.few(0, 0);
        x.few(0, NONE);
        x.when(0, 0);
        x.feast(0);
        x.read();
        due("-6, NONE and a FAULT are none", x.status(0), 6);
        x.undo();
        x.from(0);
        due("NO", x.status(1), 2);
        due("FULL", x.status(2), 0);
        for (int i = 0; i < 7; i++) {
            x.apple(0, 1, 0);
        }
        due("FULL", x.status(2), 1);
    }

    private static void p37Count() {
        ToffeeWords x = new ToffeeWords();
        due("count", x.count(12), BAD);
        due("count", x.count(-1), BAD);
        refused(x, 2, 0, 0);
        x.apple(0, 1, 0);
        x.apple(0, 1, 9);
        x.apple(0, 7, 0);
        x.apple(0, 8, 0);
        x.biter(2, 1);
        x.biter(0, 1);
        x.days(3);
        x.bites(0, 0);
        x.bites(0, 1);
        x.left(0, 0, 0, 0, 0);
        x.note(0, 1, 0, 0, 0);
        x.note(0, 1, 0, 0, 0);
        x.mark(0, 1, 0, 0);
        x.mark(0, 1, 0, 0);
        x.mark(1, 1, 0, 0);
        type(x, "abcde");
        int[] due = {4, 2, 3, 2, 1, 1, 15, 1, 2, 3, 3, 5};
        for (int what = 0; what < due.length; what++) {
            due("count " + what, x.count(what), due[what]);
        }
    }

    private static long mixed(long... all) {
        long h = 1657;
        for (long v : all) {
            h = 31 * h + v;
        }
        return h;
    }

    private static void p38Digest() {
        ToffeeWords x = new ToffeeWords();
        due("of nothing", x.digest(), mixed(0, 0, 0, 0, 0, 0, 0, 0, 0, 0, 0, 0, 0, 0, 0, 0, 0, 0, 0, 1));
        for (int d = 0; d < 4; d++) {
            x.damp(d, d + 1);
        }
        x.apple(3, 17, 22);
        x.apple(0, 1, 9);
        x.biter(4, 8);
        x.biter(2, 1);
        x.days(2);
        x.bites(1, 1);
        x.left(0, 1, 2, 33, 4);
        x.note(1, 5, 66, 4, 7);
        x.mark(1, 8, 9, 10);
        x.mark(0, 7, 29, 39);
        type(x, "xyz");
        x.wasps(5);
        x.count(99);
        // WINDFALL on day 2, DAMP 3: (9 less 3) by 2, robbed or not.
        due("of all", x.digest(), mixed(2, 2, 2, 1, 0, 1, 17, 1, 1, 2, 2, 3, 1, 2, 3, 4, 0, 0,
                3, 17, 22, 2, 0, 0, 0, 9, 2, 2, 4, 8, 2, 1, 0, 1, 2, 33, 4, 1, 5, 66, 4, 7,
                1, 8, 9, 10, 0, 7, 29, 39, 3, 1));
        due("it counts as no refusal", x.status(0), 1);
    }
}
