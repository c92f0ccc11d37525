import java.lang.reflect.Method;
import java.util.ArrayList;
import java.util.Arrays;
import java.util.Comparator;
import java.util.List;
import java.util.Random;

/** Long random runs, each call held against the Model; the digest behind every call. */
public final class ModelTest {
    private static final int RUNS = 1500;
    private static final int CALLS = 250;

    private static final String[] WORDS = {"damp", "apple", "biter", "bite", "dip", "days", "valley", "bites", "ant"};

    private final Random random;
    private final ToffeeWords real = new ToffeeWords();
    private final Model model = new Model();
    private final List<String> told = new ArrayList<>();
    private int calls = 0;
    private boolean wrong = false;

    private ModelTest(long seed) {
        random = new Random(seed);
    }

    public static void main(String[] args) throws Exception {
        List<Method> face = new ArrayList<>();
        for (Method m : ToffeeWords.class.getMethods()) {
            if (m.getDeclaringClass() == ToffeeWords.class) {
                face.add(m);
            }
        }
        // The order in which reflection tells methods is free; runs must be the same each time.
        face.sort(Comparator.comparing(Method::getName));
        for (int run = 0; run < RUNS && !Due.tooManyWrong(); run++) {
            new ModelTest(run).run(run, face);
        }
        for (int run = 0; run < RUNS && !Due.tooManyWrong(); run++) {
            new ModelTest(-1 - run).puzzle();
        }
        Due.end();
    }

    private void run(int run, List<Method> face) throws Exception {
        if (run % 4 != 0) {
            furnish();
        }
        while (calls < CALLS && !wrong) {
            int what = random.nextInt(40);
            if (what == 0) {
                tellText();
            } else if (what < 12) {
                live();
            } else if (what == 12) {
                recall();
            } else {
                Method m = face.get(random.nextInt(face.size()));
                boolean rare = List.of("valley", "from", "damp", "apple", "biter").contains(m.getName());
                if (!rare || random.nextInt(6) == 0) {
                    call(m.getName(), someArguments(m));
                }
            }
        }
    }

    /** Two biters, one apple, all that rests between them; then many Augusts. */
    private void puzzle() throws Exception {
        for (int d = 0; d < 6; d++) {
            call("damp", d, random.nextInt(5));
        }
        call("apple", random.nextInt(6), 1 + random.nextInt(12), random.nextInt(30));
        call("biter", random.nextInt(6), 1 + random.nextInt(9));
        call("biter", random.nextInt(6), 1 + random.nextInt(9));
        call("days", 1 + random.nextInt(30));
        long rest = real.pair(0, 1, 0, -1);
        for (int k = -1; k <= rest; k++) {
            call("pair", 0, 1, 0, k);
            call("pair", 1, 0, 0, k);
        }
        for (int i = 0; i < 10; i++) {
            call("augusts", random.nextInt(1000000), random.nextInt(61));
        }
    }

    private void furnish() throws Exception {
        for (int d = 0; d < 6; d++) {
            call("damp", d, random.nextInt(5));
        }
        int apples = random.nextInt(8);
        for (int i = 0; i < apples; i++) {
            call("apple", random.nextInt(6), 1 + random.nextInt(random.nextBoolean() ? 30 : 5), random.nextInt(random.nextBoolean() ? 100 : 9));
        }
        int biters = random.nextInt(5);
        for (int i = 0; i < biters; i++) {
            call("biter", random.nextInt(6), 1 + random.nextInt(9));
        }
    }

    private void live() throws Exception {
        int what = random.nextInt(8);
        if (what < 2) {
            call("days", random.nextInt(20) == 0 ? 60 : 1 + random.nextInt(5));
        } else if (what < 5) {
            call("bites", random.nextInt(4), random.nextInt(7));
        } else if (what < 6) {
            call("dips", random.nextInt(7), 1 + random.nextInt(9));
        } else {
            call("undo");
        }
    }

    /** LEFT ones, NOTES and MARKS that are so by some KIND, so that what fits is not always nothing. */
    private void recall() throws Exception {
        int p = random.nextInt(7);
        int b = random.nextInt(4);
        int kind = random.nextInt(6);
        int t = 1 + random.nextInt(30);
        int a = random.nextInt(40);
        int w = random.nextInt(5);
        int teeth = 1 + random.nextInt(9);
        int h = random.nextInt(31);
        call("note", p, t, a, w, Model.hardness(kind, t, a, w));
        call("mark", b, teeth, h, Model.bitten(kind, teeth, h));
        call("left", p, b, w, a, random.nextInt(10));
        call("is", p);
        call("look", p);
        call("kinds", b);
        call("ask", b);
        call("on", p, random.nextInt(3));
    }

    private int[] someArguments(Method m) {
        int[] arguments = new int[m.getParameterCount()];
        for (int i = 0; i < arguments.length; i++) {
            arguments[i] = someNumber(m.getName());
        }
        if (m.getName().equals("augusts") && random.nextInt(4) != 0) {
            arguments[0] = random.nextInt(1000000);
            arguments[1] = random.nextInt(61);
        }
        return arguments;
    }

    private int someNumber(String name) {
        switch (random.nextInt(14)) {
            case 0:
                return -1;
            case 1:
                return random.nextInt(64) - 2;
            case 2:
                return new int[] {-2, 9, 10, 30, 31, 40, 41, 60, 61, 99, 100, 127, 128, 999999, 1000000,
                    Integer.MAX_VALUE, Integer.MIN_VALUE}[random.nextInt(17)];
            default:
                return random.nextInt(name.equals("count") ? 12 : 7);
        }
    }

    private void tellText() throws Exception {
        call("clear");
        String text = someText();
        for (int i = 0; i < text.length() && i < 152; i++) {
            call("type", text.charAt(i));
        }
        call("read");
    }

    private String someText() {
        StringBuilder text = new StringBuilder("valley;");
        int items = random.nextInt(14);
        for (int i = 0; i < items; i++) {
            String word = WORDS[random.nextInt(20) == 0 ? random.nextInt(WORDS.length) : random.nextInt(i < 4 ? 3 : 6)];
            text.append(random.nextInt(5) == 0 ? " " : "").append(word);
            int numbers = word.equals("apple") ? 3 : word.equals("days") ? 1 : word.equals("damp") ? 1 + random.nextInt(6) : 2;
            for (int n = 0; n < numbers; n++) {
                text.append(' ').append(random.nextInt(20) == 0 ? random.nextInt(120) : someItemNumber(word, n));
            }
            text.append(random.nextInt(9) == 0 ? " ;" : ";");
        }
        int spoilt = random.nextInt(3) == 0 ? 1 + random.nextInt(2) : 0;
        for (int i = 0; i < spoilt && text.length() > 0; i++) {
            spoil(text);
        }
        return text.toString();
    }

    private int someItemNumber(String word, int n) {
        if (word.equals("apple") && n > 0) {
            return n == 1 ? 1 + random.nextInt(30) : random.nextInt(100);
        }
        if (word.equals("days")) {
            return 1 + random.nextInt(99);
        }
        return (word.equals("biter") || word.equals("dip")) && n == 1 ? 1 + random.nextInt(9) : random.nextInt(word.equals("damp") ? 5 : 3);
    }

    private void spoil(StringBuilder text) {
        int at = random.nextInt(text.length());
        char c = " ;0123456789adbxZ-\t\0".charAt(random.nextInt(20));
        switch (random.nextInt(4)) {
            case 0:
                text.deleteCharAt(at);
                break;
            case 1:
                text.insert(at, c);
                break;
            case 2:
                text.setCharAt(at, c);
                break;
            default:
                text.setLength(at);
                break;
        }
    }

    private void call(String name, int... arguments) throws Exception {
        Class<?>[] types = new Class<?>[arguments.length];
        Object[] boxed = new Object[arguments.length];
        for (int i = 0; i < arguments.length; i++) {
            types[i] = int.class;
            boxed[i] = arguments[i];
        }
        long got = ((Number) ToffeeWords.class.getMethod(name, types).invoke(real, boxed)).longValue();
        long want = ((Number) Model.class.getMethod(name, types).invoke(model, boxed)).longValue();
        told.add(name + Arrays.toString(arguments) + " " + want);
        calls++;
        Due.due("call " + calls + " " + name + Arrays.toString(arguments), got, want);
        long digest = model.digest();
        if (real.digest() != digest) {
            Due.due("digest behind call " + calls + " " + name + Arrays.toString(arguments), real.digest(), digest);
        }
        if (!wrong && (got != want || real.digest() != digest)) {
            wrong = true;
            System.out.println("the run was: " + String.join(", ", told));
        }
    }
}
