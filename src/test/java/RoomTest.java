import com.sun.management.ThreadMXBean;
import java.lang.management.ManagementFactory;
import java.lang.reflect.Array;
import java.lang.reflect.Field;
import java.lang.reflect.Method;
import java.lang.reflect.Modifier;
import java.util.ArrayList;
import java.util.IdentityHashMap;
import java.util.List;
import java.util.Map;
import java.util.Random;

/** No call throws or makes an object, whatever the arguments and however many the calls; a new object is small. */
public final class RoomTest {
    private static final int[] EDGES = {Integer.MIN_VALUE, Integer.MIN_VALUE + 1, -1000, -11, -10, -3, -2, -1, 0, 1, 2, 3, 4, 5, 6, 7,
        8, 9, 10, 11, 12, 29, 30, 31, 40, 41, 59, 60, 61, 98, 99, 100, 127, 128, 999, 1000, 999999, 1000000, Integer.MAX_VALUE};

    public static void main(String[] args) throws Exception {
        size();
        anyArguments();
        noneMade();
        Due.end();
    }

    private static void size() throws Exception {
        Map<Object, Boolean> seen = new IdentityHashMap<>();
        List<Object> open = new ArrayList<>();
        open.add(new ToffeeWords());
        long cells = 0;
        while (!open.isEmpty()) {
            Object o = open.remove(open.size() - 1);
            if (o == null || seen.put(o, true) != null) {
                continue;
            }
            if (o.getClass().isArray()) {
                cells += Array.getLength(o);
                for (int i = 0; i < Array.getLength(o) && !o.getClass().getComponentType().isPrimitive(); i++) {
                    open.add(Array.get(o, i));
                }
                continue;
            }
            for (Field f : o.getClass().getDeclaredFields()) {
                if (!Modifier.isStatic(f.getModifiers())) {
                    cells++;
                    f.setAccessible(true);
                    if (!f.getType().isPrimitive()) {
                        open.add(f.get(o));
                    }
                }
            }
        }
        System.out.println("a new object: " + seen.size() + " objects and arrays, " + cells + " fields and elements");
        Due.holds("few objects", seen.size() < 300);
        Due.holds("few elements", cells < 4000);
    }

    private static void anyArguments() throws Exception {
        List<Method> face = new ArrayList<>();
        for (Method m : ToffeeWords.class.getMethods()) {
            if (m.getDeclaringClass() == ToffeeWords.class) {
                face.add(m);
            }
        }
        Random random = new Random(7);
        for (int run = 0; run < 300; run++) {
            ToffeeWords x = new ToffeeWords();
            for (int call = 0; call < 1500; call++) {
                Method m = face.get(random.nextInt(face.size()));
                Object[] arguments = new Object[m.getParameterCount()];
                for (int i = 0; i < arguments.length; i++) {
                    arguments[i] = random.nextInt(3) == 0 ? EDGES[random.nextInt(EDGES.length)] : random.nextInt(6);
                }
                m.invoke(x, arguments);
            }
            Due.holds("it is there yet", x.count(0) >= 0 && x.count(0) <= 7 && x.count(2) <= 999 && x.count(10) <= 8);
        }
    }

    private static void noneMade() {
        ThreadMXBean threads = (ThreadMXBean) ManagementFactory.getThreadMXBean();
        ToffeeWords x = new ToffeeWords();
        String text = "valley;damp 1 2;apple 4 30 9;apple 2 9 9;biter 2 3;biter 5 9;bite 0 1;dip 0 1;days 3;";
        everyCall(x, text);
        long before = threads.getThreadAllocatedBytes(Thread.currentThread().getId());
        long between = threads.getThreadAllocatedBytes(Thread.currentThread().getId());
        everyCall(x, text);
        long behind = threads.getThreadAllocatedBytes(Thread.currentThread().getId());
        // Some bytes are the looking itself; one object in each of these calls would be thousands.
        Due.holds("calls make nothing: " + (behind - between), behind - between <= between - before + 512);
    }

    private static void everyCall(ToffeeWords x, String text) {
        x.clear();
        for (int i = 0; i < text.length(); i++) {
            x.type(text.charAt(i));
        }
        x.read();
        x.damp(0, 1);
        x.apple(5, 7, 9);
        x.biter(0, 8);
        for (int i = 0; i < 9; i++) {
            x.days(1);
            x.bites(0, 0);
            x.dips(0, 1);
        }
        x.undo();
        x.of(0, 5);
        x.about(0, 1);
        x.hard(0, 9);
        x.takes(0, 0);
        x.stuck(0);
        x.when(1, 0);
        x.few(0, -1);
        x.few(0, 2);
        x.feast(-1);
        x.feast(0);
        x.left(0, 0, 0, 0, 5);
        x.on(0, 1);
        x.note(0, 1, 0, 0, 6);
        x.mark(0, 1, 0, 1);
        x.is(0);
        x.look(0);
        x.kinds(0);
        x.ask(0);
        x.pair(0, 1, 0, 0);
        x.wasps(3);
        x.augusts(5, 60);
        x.part(0);
        x.image(0);
        x.from(0);
        x.forget(0);
        x.status(0);
        x.status(9);
        x.count(11);
        x.digest();
        x.valley();
    }
}
