import java.math.BigInteger;
import java.util.ArrayDeque;
import java.util.ArrayList;
import java.util.Arrays;
import java.util.Deque;
import java.util.HashMap;
import java.util.List;
import java.util.Map;
import java.util.TreeMap;
import java.util.regex.Matcher;
import java.util.regex.Pattern;

/**
 * The document once more, told as plainly and as wastefully as can be (lists, copies of all, every way tried),
 * so that ToffeeWords can be held against it.
 */
final class Model {
    static final class Apple {
        int kind;
        int toffee;
        int term;
        int age;
        int fate;

        Apple copy() {
            Apple c = new Apple();
            c.kind = kind;
            c.toffee = toffee;
            c.term = term;
            c.age = age;
            c.fate = fate;
            return c;
        }

        boolean isOut() {
            return fate != 0;
        }
    }

    static final class State {
        List<Apple> apples = new ArrayList<>();
        List<int[]> biters = new ArrayList<>();
        int[] damps = new int[6];
        int day = 0;
        List<int[]> lefts = new ArrayList<>();
        List<int[]> notes = new ArrayList<>();
        List<int[]> marks = new ArrayList<>();
        Deque<State> past = new ArrayDeque<>();

        State copyWithoutPast() {
            State c = new State();
            for (Apple a : apples) {
                c.apples.add(a.copy());
            }
            c.biters.addAll(biters);
            c.damps = damps.clone();
            c.day = day;
            c.lefts.addAll(lefts);
            c.notes.addAll(notes);
            c.marks.addAll(marks);
            return c;
        }

        State copy() {
            State c = copyWithoutPast();
            for (State s : past) {
                c.past.addLast(s.copyWithoutPast());
            }
            return c;
        }

        void remember() {
            past.addLast(copyWithoutPast());
            if (past.size() > 8) {
                past.removeFirst();
            }
        }

        int dampBehind(int m) {
            return damps[(day + m) % 6];
        }

        int hard(Apple a) {
            return hardness(a.kind, a.toffee, a.age, dampBehind(0));
        }

        int off(int[] biter, Apple a) {
            return a.isOut() ? 0 : Math.min(a.toffee, bitten(biter[0], biter[1], hard(a)));
        }

        int bite(int b, int p) {
            Apple a = apples.get(p);
            int off = off(biters.get(b), a);
            a.toffee -= off;
            if (a.toffee == 0) {
                a.fate = a.age < a.term ? 2 : 1;
            }
            return off;
        }

        void pass() {
            for (Apple a : apples) {
                if (!a.isOut()) {
                    a.age++;
                }
            }
            day++;
        }

        int fates(int fate) {
            int n = 0;
            for (Apple a : apples) {
                n += a.fate == fate ? 1 : 0;
            }
            return n;
        }
    }

    private static final int[][] RANGES_APPLE = {{0, 5}, {1, 30}, {0, 99}};
    private static final int[][] RANGES_BITER = {{0, 5}, {1, 9}};

    private State s = new State();
    private final State[] images = new State[2];
    private final StringBuilder text = new StringBuilder();
    private long above = 0;
    private long below = 1;
    private final int[] refused = new int[3];

    static int hardness(int kind, int t, int a, int w) {
        switch (kind) {
            case 0: {
                int h = t > 9 ? 9 : t;
                h = h - w;
                return h < 0 ? 0 : h;
            }
            case 1: {
                int more = 0;
                for (int d = 4; d <= a && more < 6; d += 4) {
                    more++;
                }
                return hardness(0, t, a, w) + more;
            }
            case 2: {
                int h = hardness(0, t, a, w);
                for (int d = 3; d <= a && h > 0; d += 3) {
                    h--;
                }
                return h;
            }
            case 3:
                return hardness(2, t, a, w) >> 1;
            case 4:
                return 5 + hardness(1, t, a, w);
            default: {
                int h = 2 * hardness(1, t, a, w);
                return h > 20 ? 20 : h;
            }
        }
    }

    static int bitten(int kind, int b, int h) {
        switch (kind) {
            case 0:
                return b > h ? b - h : 0;
            case 1:
                return bitten(0, b, h) >> 1;
            case 2:
                return bitten(0, b, h) == 0 ? 1 : bitten(0, b, h);
            case 3:
                return bitten(2, b, h) + (h < 3 ? 2 : 0);
            case 4:
                return bitten(0, b, h) == 0 ? 0 : bitten(0, b, h) + 1;
            default:
                return bitten(4, b, h) + bitten(4, b, h);
        }
    }

    private int bad() {
        refused[0]++;
        return -2;
    }

    private int bad10() {
        refused[0]++;
        return -10;
    }

    private int no() {
        refused[1]++;
        return -3;
    }

    private int full() {
        refused[2]++;
        return -4;
    }

    private static boolean in(int x, int lo, int hi) {
        return lo <= x && x <= hi;
    }

    private boolean ap(int p) {
        return in(p, 0, s.apples.size() - 1);
    }

    private boolean bi(int b) {
        return in(b, 0, s.biters.size() - 1);
    }

    public int valley() {
        int n = s.apples.size();
        s = new State();
        return n;
    }

    public int damp(int d, int w) {
        if (!in(d, 0, 5) || !in(w, 0, 4)) {
            return bad();
        }
        int was = s.damps[d];
        s.damps[d] = w;
        s.past.clear();
        return was;
    }

    public int apple(int kind, int toffee, int term) {
        if (!in(kind, 0, 5) || !in(toffee, 1, 30) || !in(term, 0, 99)) {
            return bad();
        }
        if (s.apples.size() == 7) {
            return full();
        }
        s.past.clear();
        return comeApple(s, kind, toffee, term);
    }

    private static int comeApple(State s, int kind, int toffee, int term) {
        Apple a = new Apple();
        a.kind = kind;
        a.toffee = toffee;
        a.term = term;
        s.apples.add(a);
        return s.apples.size() - 1;
    }

    public int biter(int kind, int teeth) {
        if (!in(kind, 0, 5) || !in(teeth, 1, 9)) {
            return bad();
        }
        if (s.biters.size() == 4) {
            return full();
        }
        s.past.clear();
        s.biters.add(new int[] {kind, teeth});
        return s.biters.size() - 1;
    }

    public int type(int c) {
        if (!in(c, 0, 127)) {
            return bad();
        }
        if (text.length() == 150) {
            return full();
        }
        text.append((char) c);
        return text.length();
    }

    public int clear() {
        int n = text.length();
        text.setLength(0);
        return n;
    }

    public int read() {
        State told = new State();
        List<String> tokens = new ArrayList<>();
        List<Integer> places = new ArrayList<>();
        Matcher m = Pattern.compile("[a-z]+|[0-9]+|[^ ]", Pattern.DOTALL).matcher(text);
        while (m.find()) {
            tokens.add(m.group());
            places.add(m.start());
        }
        tokens.add("");
        places.add(text.length());
        int items = 0;
        int i = 0;
        while (i < tokens.size() - 1 || items == 0) {
            int end = item(told, tokens, i, items == 0);
            if (end < 0) {
                return -10 - places.get(-1 - end);
            }
            i = end;
            items++;
        }
        s = told;
        return items;
    }

    /** Answers the token behind the item, or -1 less the token that can not stand there. */
    private static int item(State v, List<String> tokens, int from, boolean first) {
        String word = tokens.get(from);
        if (first != word.equals("valley")) {
            return -1 - from;
        }
        if (word.equals("apple") && v.apples.size() == 7 || word.equals("biter") && v.biters.size() == 4) {
            return -1 - from;
        }
        if (!List.of("valley", "damp", "apple", "biter", "bite", "dip", "days").contains(word)) {
            return -1 - from;
        }
        List<Integer> numbers = new ArrayList<>();
        int i = from + 1;
        while (true) {
            String t = tokens.get(i);
            if (t.equals(";")) {
                if (!enough(word, numbers.size())) {
                    return -1 - i;
                }
                apply(v, word, numbers);
                return i + 1;
            }
            if (!t.matches("[0-9][0-9]?") || !stands(v, word, numbers.size(), Integer.parseInt(t))) {
                return -1 - i;
            }
            numbers.add(Integer.parseInt(t));
            i++;
        }
    }

    private static boolean enough(String word, int n) {
        switch (word) {
            case "valley":
                return n == 0;
            case "damp":
                return n >= 1 && n <= 6;
            case "apple":
                return n == 3;
            case "days":
                return n == 1;
            default:
                return n == 2;
        }
    }

    private static boolean stands(State v, String word, int place, int x) {
        switch (word) {
            case "damp":
                return place < 6 && in(x, 0, 4);
            case "apple":
                return place < 3 && in(x, RANGES_APPLE[place][0], RANGES_APPLE[place][1]);
            case "biter":
                return place < 2 && in(x, RANGES_BITER[place][0], RANGES_BITER[place][1]);
            case "bite":
                return place == 0 && x < v.biters.size() || place == 1 && canBeBitten(v, x);
            case "dip":
                return place == 0 && canBeBitten(v, x) || place == 1 && in(x, 1, 9);
            case "days":
                return place == 0 && in(x, 1, 99);
            default:
                return false;
        }
    }

    private static boolean canBeBitten(State v, int p) {
        return p < v.apples.size() && !v.apples.get(p).isOut();
    }

    private static void apply(State v, String word, List<Integer> n) {
        switch (word) {
            case "damp":
                for (int d = 0; d < n.size(); d++) {
                    v.damps[d] = n.get(d);
                }
                break;
            case "apple":
                comeApple(v, n.get(0), n.get(1), n.get(2));
                break;
            case "biter":
                v.biters.add(new int[] {n.get(0), n.get(1)});
                break;
            case "bite":
                v.bite(n.get(0), n.get(1));
                break;
            case "dip":
                v.apples.get(n.get(0)).toffee = Math.min(30, v.apples.get(n.get(0)).toffee + n.get(1));
                break;
            case "days":
                for (int i = 0; i < n.get(0) && v.day != 999; i++) {
                    v.pass();
                }
                break;
            default:
                break;
        }
    }

    public int days(int n) {
        if (!in(n, 1, 60)) {
            return bad();
        }
        if (s.day != 999) {
            s.remember();
        }
        for (int i = 0; i < n && s.day != 999; i++) {
            s.pass();
        }
        return s.fates(0);
    }

    public int bites(int b, int p) {
        if (!bi(b) || !ap(p)) {
            return bad();
        }
        if (s.apples.get(p).isOut()) {
            return no();
        }
        s.remember();
        return s.bite(b, p);
    }

    public int dips(int p, int n) {
        if (!ap(p) || !in(n, 1, 9)) {
            return bad();
        }
        Apple a = s.apples.get(p);
        if (a.isOut()) {
            return no();
        }
        s.remember();
        a.toffee = Math.min(30, a.toffee + n);
        return a.toffee;
    }

    public int undo() {
        if (s.past.isEmpty()) {
            return no();
        }
        State old = s.past.removeLast();
        s.apples = old.apples;
        s.day = old.day;
        return s.day;
    }

    public int of(int p, int what) {
        if (!ap(p) || !in(what, 0, 5)) {
            return bad();
        }
        Apple a = s.apples.get(p);
        return new int[] {a.kind, a.toffee, a.term, a.age, a.fate, s.hard(a)}[what];
    }

    public int about(int b, int what) {
        return bi(b) && in(what, 0, 1) ? s.biters.get(b)[what] : bad();
    }

    public int hard(int p, int m) {
        return ap(p) && in(m, 0, 60) ? behind(p, m) : bad();
    }

    private int behind(int p, int m) {
        State later = s.copyWithoutPast();
        for (int i = 0; i < m; i++) {
            later.pass();
        }
        return later.hard(later.apples.get(p));
    }

    public int takes(int b, int p) {
        return bi(b) && ap(p) ? s.off(s.biters.get(b), s.apples.get(p)) : bad();
    }

    public int stuck(int p) {
        if (!ap(p)) {
            return bad();
        }
        int bits = 0;
        for (int b = 0; b < s.biters.size(); b++) {
            bits += s.off(s.biters.get(b), s.apples.get(p)) == 0 ? 1 << b : 0;
        }
        return bits;
    }

    public int when(int b, int p) {
        if (!bi(b) || !ap(p)) {
            return bad();
        }
        State later = s.copyWithoutPast();
        for (int m = 0; m <= 60; m++) {
            if (later.off(later.biters.get(b), later.apples.get(p)) > 0) {
                return m;
            }
            later.pass();
        }
        return -1;
    }

    public int few(int p, int k) {
        if (!ap(p) || k < -1) {
            return bad10();
        }
        List<Integer> row = row(p, s.apples.get(p).toffee, new HashMap<>());
        if (row == null) {
            return -6;
        }
        if (k == -1) {
            return row.size();
        }
        return k < row.size() ? row.get(k) : -5;
    }

    private List<Integer> row(int p, int toffee, Map<Integer, List<Integer>> known) {
        if (toffee == 0) {
            return new ArrayList<>();
        }
        if (known.containsKey(toffee)) {
            return known.get(toffee);
        }
        List<Integer> best = null;
        for (int b = 0; b < s.biters.size(); b++) {
            Apple a = s.apples.get(p).copy();
            a.toffee = toffee;
            int off = s.off(s.biters.get(b), a);
            List<Integer> rest = off == 0 ? null : row(p, toffee - off, known);
            if (rest != null && (best == null || rest.size() + 1 < best.size())) {
                best = new ArrayList<>();
                best.add(b);
                best.addAll(rest);
            }
        }
        known.put(toffee, best);
        return best;
    }

    public int feast(int b) {
        if (b != -1 && !bi(b)) {
            return bad10();
        }
        int n = s.biters.size();
        int options = s.apples.size() + 1;
        int ways = 1;
        for (int i = 0; i < n; i++) {
            ways *= options;
        }
        int most = -1;
        int[] best = null;
        for (int way = 0; way < ways; way++) {
            int[] choice = new int[n];
            int rest = way;
            for (int i = n - 1; i >= 0; i--) {
                choice[i] = rest % options - 1;
                rest /= options;
            }
            int sum = feasted(choice);
            if (sum > most) {
                most = sum;
                best = choice;
            }
        }
        return b == -1 ? most : best[b];
    }

    private int feasted(int[] choice) {
        State then = s.copyWithoutPast();
        int sum = 0;
        for (int b = 0; b < choice.length; b++) {
            if (choice[b] >= 0 && !then.apples.get(choice[b]).isOut()) {
                sum += then.bite(b, choice[b]);
            }
        }
        return sum;
    }

    public int left(int p, int b, int w, int a, int x) {
        if (!ap(p) || !bi(b) || !in(w, 0, 4) || !in(a, 0, 99) || !in(x, 0, 30)) {
            return bad();
        }
        return come(s.lefts, 5, p, b, w, a, x);
    }

    private int come(List<int[]> rows, int most, int... row) {
        if (rows.size() == most) {
            return full();
        }
        rows.add(row);
        return rows.size();
    }

    public int on(int p, int what) {
        if (!ap(p) || !in(what, 0, 2)) {
            return bad();
        }
        List<Integer> fit = new ArrayList<>();
        for (int t = 1; t <= 30; t++) {
            boolean so = true;
            for (int[] l : s.lefts) {
                int[] biter = s.biters.get(l[1]);
                int off = bitten(biter[0], biter[1], hardness(s.apples.get(p).kind, t, l[3], l[2]));
                so &= l[0] != p || Math.max(0, t - off) == l[4];
            }
            if (so) {
                fit.add(t);
            }
        }
        if (what == 0) {
            return fit.size();
        }
        return fit.isEmpty() ? -1 : what == 1 ? fit.get(0) : fit.get(fit.size() - 1);
    }

    public int note(int p, int t, int a, int w, int x) {
        if (!ap(p) || !in(t, 1, 30) || !in(a, 0, 99) || !in(w, 0, 4) || !in(x, 0, 30)) {
            return bad();
        }
        return come(s.notes, 6, p, t, a, w, x);
    }

    public int mark(int b, int teeth, int h, int x) {
        if (!bi(b) || !in(teeth, 1, 9) || !in(h, 0, 30) || !in(x, 0, 40)) {
            return bad();
        }
        return come(s.marks, 6, b, teeth, h, x);
    }

    public int forget(int what) {
        if (!in(what, 0, 2)) {
            return bad();
        }
        List<int[]> rows = what == 0 ? s.lefts : what == 1 ? s.notes : s.marks;
        int n = rows.size();
        rows.clear();
        return n;
    }

    private List<Integer> fittingApples(int p) {
        List<Integer> fit = new ArrayList<>();
        for (int k = 0; k < 6; k++) {
            boolean so = true;
            for (int[] n : s.notes) {
                so &= n[0] != p || hardness(k, n[1], n[2], n[3]) == n[4];
            }
            if (so) {
                fit.add(k);
            }
        }
        return fit;
    }

    private List<Integer> fittingBiters(int b) {
        List<Integer> fit = new ArrayList<>();
        for (int k = 0; k < 6; k++) {
            boolean so = true;
            for (int[] m : s.marks) {
                so &= m[0] != b || bitten(k, m[1], m[2]) == m[3];
            }
            if (so) {
                fit.add(k);
            }
        }
        return fit;
    }

    private static int bits(List<Integer> kinds) {
        int bits = 0;
        for (int k : kinds) {
            bits += 1 << k;
        }
        return bits;
    }

    public int is(int p) {
        return ap(p) ? bits(fittingApples(p)) : bad();
    }

    public int look(int p) {
        if (!ap(p)) {
            return bad();
        }
        int t = s.apples.get(p).isOut() ? 1 : s.apples.get(p).toffee;
        TreeMap<Integer, Integer> crowds = new TreeMap<>();
        for (int aw = 0; aw <= 244; aw++) {
            if (aw % 10 <= 4) {
                int[] groups = new int[100];
                for (int k : fittingApples(p)) {
                    groups[hardness(k, t, aw / 10, aw % 10)]++;
                }
                crowds.put(aw, Arrays.stream(groups).max().getAsInt());
            }
        }
        return leastOfFewest(crowds);
    }

    private static int leastOfFewest(TreeMap<Integer, Integer> crowds) {
        int fewest = crowds.values().stream().min(Integer::compare).get();
        if (fewest == 0) {
            return -1;
        }
        for (Map.Entry<Integer, Integer> e : crowds.entrySet()) {
            if (e.getValue() == fewest) {
                return e.getKey();
            }
        }
        return -1;
    }

    public int kinds(int b) {
        return bi(b) ? bits(fittingBiters(b)) : bad();
    }

    public int ask(int b) {
        if (!bi(b)) {
            return bad();
        }
        TreeMap<Integer, Integer> crowds = new TreeMap<>();
        for (int h = 0; h <= 20; h++) {
            int[] groups = new int[100];
            for (int k : fittingBiters(b)) {
                groups[bitten(k, s.biters.get(b)[1], h)]++;
            }
            crowds.put(h, Arrays.stream(groups).max().getAsInt());
        }
        return leastOfFewest(crowds);
    }

    public int pair(int a, int b, int p, int k) {
        if (!bi(a) || !bi(b) || a == b || !ap(p) || k < -1) {
            return bad10();
        }
        int[][] toA = new int[10][10];
        int[][] toB = new int[10][10];
        for (int i = 0; i < 10; i++) {
            for (int j = 0; j < 10; j++) {
                int offA = bitten(s.biters.get(a)[0], s.biters.get(a)[1], behind(p, i));
                int offB = bitten(s.biters.get(b)[0], s.biters.get(b)[1], behind(p, j));
                toA[i][j] = i == j ? offA - 1 : i < j ? offA + i / 2 : offA / 2;
                toB[i][j] = i == j ? offB - 1 : i < j ? offB / 2 : offB + j / 2;
            }
        }
        List<Integer> rest = new ArrayList<>();
        for (int ij = 0; ij < 100; ij++) {
            boolean so = true;
            for (int o = 0; o < 10; o++) {
                so &= toA[o][ij % 10] <= toA[ij / 10][ij % 10] && toB[ij / 10][o] <= toB[ij / 10][ij % 10];
            }
            if (so) {
                rest.add(ij);
            }
        }
        if (k == -1) {
            return rest.size();
        }
        return k < rest.size() ? rest.get(k) : -5;
    }

    /** All ways the wasps may come, each with its own odds. */
    public int wasps(int c) {
        if (!in(c, 0, 10)) {
            return bad();
        }
        List<Apple> whole = new ArrayList<>();
        for (Apple a : s.apples) {
            if (!a.isOut()) {
                whole.add(a);
            }
        }
        BigInteger sum = BigInteger.ZERO;
        for (int robbed = 0; robbed < 1 << whole.size(); robbed++) {
            long odds = 1;
            int hard = 0;
            for (int i = 0; i < whole.size(); i++) {
                boolean is = (robbed >> i & 1) == 1;
                odds *= is ? c : 10 - c;
                Apple a = whole.get(i).copy();
                a.toffee -= is ? 1 : 0;
                hard += a.toffee == 0 ? 0 : s.hard(a);
            }
            sum = sum.add(BigInteger.valueOf(odds).multiply(BigInteger.valueOf(hard)));
        }
        BigInteger all = BigInteger.TEN.pow(whole.size());
        BigInteger g = sum.gcd(all);
        above = sum.divide(g).longValueExact();
        below = all.divide(g).longValueExact();
        return 1;
    }

    public int augusts(int seed, int n) {
        if (!in(seed, 0, 999999) || !in(n, 0, 60)) {
            return bad();
        }
        State then = s.copyWithoutPast();
        BigInteger x = BigInteger.valueOf(seed);
        for (int i = 0; i < n; i++) {
            x = x.multiply(BigInteger.valueOf(1103515245)).add(BigInteger.valueOf(12345)).mod(BigInteger.TWO.pow(31));
            int b = x.shiftRight(16).intValue() % 4;
            int p = x.shiftRight(20).intValue() % 7;
            if (b < then.biters.size() && p < then.apples.size() && !then.apples.get(p).isOut()) {
                then.bite(b, p);
            }
            then.pass();
        }
        return then.fates(1);
    }

    public long part(int what) {
        return what == 0 ? above : what == 1 ? below : bad();
    }

    public int image(int i) {
        if (!in(i, 0, 1)) {
            return bad();
        }
        images[i] = s.copy();
        return 1;
    }

    public int from(int i) {
        if (!in(i, 0, 1)) {
            return bad();
        }
        if (images[i] == null) {
            return no();
        }
        s = images[i].copy();
        return 1;
    }

    public int status(int what) {
        if (!in(what, 0, 2)) {
            bad();
            return -1;
        }
        return refused[what];
    }

    public int count(int what) {
        return in(what, 0, 11) ? (int) (long) counts().get(what) : bad();
    }

    private List<Long> counts() {
        long on = 0;
        for (Apple a : s.apples) {
            on += a.toffee;
        }
        long[] all = {s.apples.size(), s.biters.size(), s.day, s.fates(0), s.fates(1), s.fates(2), on,
            s.lefts.size(), s.notes.size(), s.marks.size(), s.past.size(), text.length()};
        List<Long> list = new ArrayList<>();
        for (long x : all) {
            list.add(x);
        }
        return list;
    }

    public long digest() {
        List<Long> v = counts();
        for (int d : s.damps) {
            v.add((long) d);
        }
        for (Apple a : s.apples) {
            for (int x : new int[] {a.kind, a.toffee, a.term, a.age, a.fate}) {
                v.add((long) x);
            }
        }
        for (List<int[]> rows : List.of(s.biters, s.lefts, s.notes, s.marks)) {
            for (int[] row : rows) {
                for (int x : row) {
                    v.add((long) x);
                }
            }
        }
        v.add(above);
        v.add(below);
        long h = 1657;
        for (long x : v) {
            h = 31 * h + x;
        }
        return h;
    }
}
