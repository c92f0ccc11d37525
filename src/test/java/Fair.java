import java.lang.reflect.InvocationTargetException;
import java.util.ArrayList;
import java.util.List;

/** Valleys to look at edges in, calls by their names, and all that can be seen of an object. */
final class Fair {
    /** What THE TEXT of each of these valleys is; it can be read. */
    static final String TEXT = "valley;apple 0 5 0;";

    private Fair() {
    }

    static void type(ToffeeWords x, String text) {
        for (int i = 0; i < text.length(); i++) {
            x.type(text.charAt(i));
        }
    }

    static int read(ToffeeWords x, String text) {
        x.clear();
        type(x, text);
        return x.read();
    }

    /** So many APPLES and BITERS, the last APPLE OUT if there are two; 3 LEFT ones, NOTES, MARKS if they can be; 5 to undo. */
    static ToffeeWords valley(int apples, int biters) {
        ToffeeWords x = new ToffeeWords();
        type(x, TEXT);
        for (int d = 0; d < 6; d++) {
            x.damp(d, 4 - d % 4);
        }
        for (int p = 0; p < apples; p++) {
            x.apple(p % 6, p == apples - 1 ? 1 : 30 - p, p);
        }
        for (int b = 0; b < biters; b++) {
            x.biter(b == 0 ? 2 : b, 9 - b);
        }
        x.image(1);
        x.days(2);
        for (int i = 0; i < 3 && apples > 0 && biters > 0; i++) {
            x.left(i % apples, i % biters, i, 10 + i, 20 + i);
            x.note(i % apples, 3 + i, 20 + i, i, 7 + i);
            x.mark(i % biters, 4 + i, i, 2 + i);
        }
        if (apples > 1 && biters > 0) {
            x.bites(0, apples - 1);
            x.dips(0, 1);
        }
        x.days(7);
        x.days(1);
        x.wasps(3);
        x.image(0);
        return x;
    }

    static long call(ToffeeWords x, String name, int... arguments) {
        Class<?>[] types = new Class<?>[arguments.length];
        Object[] boxed = new Object[arguments.length];
        for (int i = 0; i < arguments.length; i++) {
            types[i] = int.class;
            boxed[i] = arguments[i];
        }
        try {
            return ((Number) ToffeeWords.class.getMethod(name, types).invoke(x, boxed)).longValue();
        } catch (InvocationTargetException e) {
            throw new IllegalStateException(name + " threw", e.getCause());
        } catch (ReflectiveOperationException e) {
            throw new IllegalStateException(e);
        }
    }

    /** Another valley that fills every place there is with other numbers, so that nothing of an earlier one is left. */
    static void overrun(ToffeeWords x) {
        x.valley();
        for (int d = 0; d < 6; d++) {
            x.damp(d, d % 4);
        }
        for (int p = 0; p < 7; p++) {
            x.apple(5 - p % 6, 20 + p, 90 + p);
        }
        for (int b = 0; b < 4; b++) {
            x.biter(5 - b % 2, 5 + b);
        }
        for (int i = 0; i < 6; i++) {
            x.left(6 - i, 3 - i % 4, 4 - i % 5, 50 + i, i);
            x.note(6 - i, 30 - i, 50 + i, 4 - i % 5, i);
            x.mark(3 - i % 4, 9 - i, 30 - i, 30 + i);
        }
        for (int i = 0; i < 8; i++) {
            x.days(11);
            x.dips(i % 7, 2);
        }
    }

    /** Many calls of all sorts, on one APPLE and one BITER more than there are; what they answered. */
    static List<Long> live(ToffeeWords x) {
        List<Long> seen = new ArrayList<>();
        seen.add((long) x.apple(2, 4, 3));
        seen.add((long) x.biter(2, 3));
        for (int i = 0; i < 12; i++) {
            seen.add((long) x.stuck(0));
            seen.add((long) x.feast(-1));
            seen.add((long) x.feast(0));
            seen.add((long) x.few(0, -1));
            seen.add((long) x.few(0, 0));
            seen.add((long) x.augusts(900 * i, 60));
            seen.add((long) x.hard(0, 5 * i));
            seen.add((long) x.wasps(i % 11));
            seen.add(x.part(0));
            seen.add((long) x.is(0));
            seen.add((long) x.kinds(0));
            seen.add((long) x.on(0, 0));
            seen.add((long) (i % 3 == 0 ? x.bites(0, 0) : i % 3 == 1 ? x.days(1) : x.dips(0, 1)));
            seen.add(x.digest());
        }
        past(x, seen);
        return seen;
    }

    /** All that can be seen but STATUS: what is now, what may be undone, the IMAGES, THE TEXT. The object is spent behind it. */
    static List<Long> spend(ToffeeWords x) {
        List<Long> seen = new ArrayList<>();
        past(x, seen);
        for (int i = 0; i < 2; i++) {
            seen.add((long) x.from(i));
            past(x, seen);
        }
        seen.add((long) x.read());
        past(x, seen);
        return seen;
    }

    private static void past(ToffeeWords x, List<Long> seen) {
        seen.add(x.digest());
        for (int i = 0; i < 9; i++) {
            seen.add((long) x.undo());
            seen.add(x.digest());
        }
    }
}
