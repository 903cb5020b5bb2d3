import java.util.ArrayList;
import java.util.Arrays;
import java.util.Comparator;
import java.util.List;
import java.util.TreeMap;
import java.util.regex.Pattern;

/**
 * The document told a second time, with the whole Java library and no care for room or speed:
 * what the random runs of ModelTest measure DitherDesk against.
 */
final class Model {
    static final long NO = Long.MIN_VALUE;

    record Pic(int wide, int high, int[] at) {
        Pic copy() {
            return new Pic(wide, high, at.clone());
        }
    }

    static final class Ink {
        int colour;
        boolean locked;

        Ink(int colour, boolean locked) {
            this.colour = colour;
            this.locked = locked;
        }
    }

    record Made(int way, int wide, int high, int[] shown, int[] entry, int[] colour, float[] lost) { }

    static final class Kept {
        Pic[] pics = new Pic[4];
        List<List<Ink>> pals = new ArrayList<>();
        int metric, kernel, screen, strength = 16;
        Made sheet;
        List<int[]> seen = new ArrayList<>(), plan = new ArrayList<>(), book = new ArrayList<>();

        Kept() {
            for (int i = 0; i < 4; i++) {
                pals.add(new ArrayList<>());
            }
        }

        Kept copy() {
            Kept k = new Kept();
            for (int i = 0; i < 4; i++) {
                k.pics[i] = pics[i] == null ? null : pics[i].copy();
                for (Ink e : pals.get(i)) {
                    k.pals.get(i).add(new Ink(e.colour, e.locked));
                }
            }
            k.metric = metric;
            k.kernel = kernel;
            k.screen = screen;
            k.strength = strength;
            k.sheet = sheet; // never changed once made
            k.seen.addAll(seen);
            k.plan.addAll(plan);
            k.book.addAll(book);
            return k;
        }
    }

    Kept s = new Kept();
    Kept image;
    String text = "";
    Object[] tapes = new Object[6];
    int work;

    // ---- small things

    static int[] split(int c) {
        return new int[] {c / 4096, c / 64 % 64, c % 64};
    }

    static int join(int[] c) {
        return c[0] * 4096 + c[1] * 64 + c[2];
    }

    static boolean colour(int c) {
        return 0 <= c && c < 64 * 64 * 64;
    }

    Pic pic(int p) {
        return p < 0 || p > 3 ? null : s.pics[p];
    }

    List<Ink> pal(int p) {
        return p < 0 || p > 3 ? null : s.pals.get(p);
    }

    boolean full(int cost) {
        if (work + cost > 6000) {
            return true;
        }
        work += cost;
        return false;
    }

    static int distance(int metric, int a, int b) {
        int[] x = split(a), y = split(b), d = new int[3];
        for (int i = 0; i < 3; i++) {
            d[i] = Math.abs(x[i] - y[i]);
        }
        return metric == 0 ? d[0] * d[0] + d[1] * d[1] + d[2] * d[2]
            : metric == 1 ? 2 * d[0] * d[0] + 4 * d[1] * d[1] + 3 * d[2] * d[2]
            : metric == 2 ? Arrays.stream(d).max().getAsInt()
            : Arrays.stream(d).sum();
    }

    static List<Integer> ranked(List<Ink> pal, int colour, int metric) {
        List<Integer> order = new ArrayList<>();
        for (int i = 0; i < pal.size(); i++) {
            order.add(i);
        }
        order.sort(Comparator.comparingInt((Integer e) -> distance(metric, pal.get(e).colour, colour))
            .thenComparingInt(e -> e));
        return order;
    }

    static int closest(List<Ink> pal, int colour, int metric) {
        return pal.isEmpty() ? -5 : ranked(pal, colour, metric).get(0);
    }

    static int indexOf(List<Ink> pal, int colour) {
        for (int i = 0; i < pal.size(); i++) {
            if (pal.get(i).colour == colour) {
                return i;
            }
        }
        return -1;
    }

    static long fraction(long a, long b, int part) {
        long g = java.math.BigInteger.valueOf(a).gcd(java.math.BigInteger.valueOf(b)).longValue();
        return part == 0 ? a / g : b / g;
    }

    static int half(double sum, double n) {
        return (int) Math.floor(sum / n + 0.5);
    }

    static TreeMap<Integer, Integer> tally(Pic p) {
        TreeMap<Integer, Integer> t = new TreeMap<>();
        for (int c : p.at) {
            t.merge(c, 1, Integer::sum);
        }
        return t;
    }

    // ---- pictures

    int picture(int p, int w, int h) {
        if (p < 0 || p > 3) {
            return -1;
        }
        if (w < 0 || w > 12 || w != 0 && (h < 1 || h > 12)) {
            return -2;
        }
        s.pics[p] = w == 0 ? null : new Pic(w, h, new int[w * h]);
        return w == 0 ? 0 : w * h;
    }

    int paint(int p, int x, int y, int c) {
        Pic q = pic(p);
        if (q == null) {
            return -1;
        }
        if (x < 0 || y < 0 || x >= q.wide || y >= q.high || !colour(c)) {
            return -2;
        }
        int old = q.at[y * q.wide + x];
        q.at[y * q.wide + x] = c;
        return old;
    }

    int noise(int p, int seed) {
        Pic q = pic(p);
        if (q == null) {
            return -1;
        }
        int z = seed;
        for (int i = 0; i < q.at.length; i++) {
            int[] c = new int[3];
            for (int k = 0; k < 3; k++) {
                z = z * 1103515245 + 12345;
                c[k] = (z >>> 9) % 64;
            }
            q.at[i] = join(c);
        }
        return q.at.length;
    }

    static int ramp(int a, int b, int i, int n) {
        if (n == 1) {
            return a;
        }
        int[] x = split(a), y = split(b), c = new int[3];
        for (int k = 0; k < 3; k++) {
            c[k] = (x[k] * (n - 1 - i) + y[k] * i) / (n - 1);
        }
        return join(c);
    }

    int shade(int p, int a, int b) {
        Pic q = pic(p);
        if (q == null) {
            return -1;
        }
        if (!colour(a) || !colour(b)) {
            return -2;
        }
        for (int i = 0; i < q.at.length; i++) {
            q.at[i] = ramp(a, b, i % q.wide, q.wide);
        }
        return q.at.length;
    }

    int pixel(int p, int x, int y) {
        Pic q = pic(p);
        return q == null ? -1 : x < 0 || y < 0 || x >= q.wide || y >= q.high ? -2 : q.at[y * q.wide + x];
    }

    int of(int p, int what) {
        Pic q = pic(p);
        if (q == null || what < 0 || what > 4) {
            return -1;
        }
        TreeMap<Integer, Integer> t = tally(q);
        return new int[] {q.wide, q.high, t.size(), t.firstKey(), t.lastKey()}[what];
    }

    int many(int p, int c) {
        Pic q = pic(p);
        return q == null ? -1 : !colour(c) ? -2 : tally(q).getOrDefault(c, 0);
    }

    int common(int p, int k) {
        Pic q = pic(p);
        if (q == null) {
            return -1;
        }
        TreeMap<Integer, Integer> t = tally(q);
        if (k < 0 || k >= t.size()) {
            return -2;
        }
        List<Integer> order = new ArrayList<>(t.keySet());
        order.sort(Comparator.comparingInt((Integer c) -> -t.get(c)).thenComparingInt(c -> c));
        return order.get(k);
    }

    long mean(int p, int channel, int part) {
        Pic q = pic(p);
        if (q == null || channel < 0 || channel > 2 || part < 0 || part > 1) {
            return NO;
        }
        return fraction(Arrays.stream(q.at).map(c -> split(c)[channel]).sum(), q.at.length, part);
    }

    // ---- boxes

    /** A box by its colours alone; how many pixels have each is looked up in the tally. */
    static int[] spanOf(List<Integer> box) {
        int[] best = {-1, 0};
        for (int k = 0; k < 3; k++) {
            int channel = k;
            int lo = box.stream().mapToInt(c -> split(c)[channel]).min().getAsInt();
            int hi = box.stream().mapToInt(c -> split(c)[channel]).max().getAsInt();
            if (hi - lo > best[0]) {
                best = new int[] {hi - lo, k};
            }
        }
        return best;
    }

    static int pixelsOf(List<Integer> box, TreeMap<Integer, Integer> t) {
        return box.stream().mapToInt(t::get).sum();
    }

    static int meanOf(List<Integer> box, TreeMap<Integer, Integer> t) {
        int[] c = new int[3];
        for (int k = 0; k < 3; k++) {
            int channel = k;
            c[k] = half(box.stream().mapToInt(x -> split(x)[channel] * t.get(x)).sum(), pixelsOf(box, t));
        }
        return join(c);
    }

    static List<List<Integer>> boxes(Pic p, int n) {
        TreeMap<Integer, Integer> t = tally(p);
        List<List<Integer>> all = new ArrayList<>();
        all.add(new ArrayList<>(t.keySet()));
        Comparator<List<Integer>> byLeast = Comparator.comparingInt(b -> b.stream().mapToInt(c -> c).min().getAsInt());
        while (all.size() < n) {
            List<Integer> b = all.stream().min(Comparator.comparingInt((List<Integer> x) -> -spanOf(x)[0])
                .thenComparingInt(x -> -pixelsOf(x, t)).thenComparing(byLeast)).get();
            if (spanOf(b)[0] == 0) {
                break;
            }
            int channel = spanOf(b)[1];
            List<Integer> sorted = new ArrayList<>(b);
            sorted.sort(Comparator.comparingInt((Integer c) -> split(c)[channel]).thenComparingInt(c -> c));
            int total = pixelsOf(b, t);
            int take = 1;
            while (take < sorted.size() - 1 && 2 * pixelsOf(sorted.subList(0, take), t) < total) {
                take++;
            }
            all.remove(b);
            all.add(new ArrayList<>(sorted.subList(0, take)));
            all.add(new ArrayList<>(sorted.subList(take, sorted.size())));
        }
        all.sort(byLeast);
        return all;
    }

    int box(int p, int n, int i, int what) {
        Pic q = pic(p);
        if (q == null || what < 0 || what > 4) {
            return -1;
        }
        if (n < 1 || n > 16) {
            return -2;
        }
        if (work >= 6000) {
            return -4;
        }
        List<List<Integer>> all = boxes(q, n);
        if (i < 0 || i >= all.size()) {
            return -2;
        }
        work++;
        List<Integer> b = all.get(i);
        TreeMap<Integer, Integer> t = tally(q);
        return new int[] {pixelsOf(b, t), b.size(), meanOf(b, t), spanOf(b)[0],
            b.stream().mapToInt(c -> c).min().getAsInt()}[what];
    }

    // ---- palettes

    int entry(int p, int c) {
        List<Ink> l = pal(p);
        if (l == null) {
            return -1;
        }
        if (!colour(c)) {
            return -2;
        }
        if (indexOf(l, c) >= 0) {
            return -3;
        }
        if (l.size() == 16) {
            return -4;
        }
        l.add(new Ink(c, false));
        return l.size() - 1;
    }

    Ink ink(int p, int e) {
        List<Ink> l = pal(p);
        return l == null || e < 0 || e >= l.size() ? null : l.get(e);
    }

    int drop(int p, int e) {
        if (ink(p, e) == null) {
            return -1;
        }
        pal(p).remove(e);
        return pal(p).size();
    }

    int change(int p, int e, int c) {
        Ink k = ink(p, e);
        if (k == null) {
            return -1;
        }
        if (!colour(c)) {
            return -2;
        }
        int other = indexOf(pal(p), c);
        if (k.locked || other >= 0 && other != e) {
            return -3;
        }
        int old = k.colour;
        k.colour = c;
        return old;
    }

    int lock(int p, int e, boolean locked) {
        Ink k = ink(p, e);
        if (k == null) {
            return -1;
        }
        boolean old = k.locked;
        k.locked = locked;
        return old ? 1 : 0;
    }

    int told(int p, int e, int what) {
        Ink k = ink(p, e);
        if (k == null || what < 0 || what > 4) {
            return -1;
        }
        int[] c = split(k.colour);
        return new int[] {k.colour, k.locked ? 1 : 0, c[0], c[1], c[2]}[what];
    }

    int feed(int sign) {
        if (sign < 0 || sign > 127) {
            return -2;
        }
        if (text.length() == 100) {
            return -4;
        }
        text += (char) sign;
        return text.length();
    }

    private static final String NUMBER = "(?:[0-5]?[0-9]|6[0-3]|[6-9])";
    private static final String COLOUR = NUMBER + "," + NUMBER + "," + NUMBER;
    private static final String CLAUSE = COLOUR + "(?:>" + COLOUR + ":[2-8])?!?";
    private static final Pattern WHOLE = Pattern.compile(CLAUSE + "(?:;" + CLAUSE + "){0,11}");

    /** Whether a text begins so: by what the expression still could take. */
    private static boolean begins(String head) {
        java.util.regex.Matcher m = WHOLE.matcher(head);
        return m.matches() || m.hitEnd();
    }

    static int fault(String text) {
        if (WHOLE.matcher(text).matches()) {
            return -1;
        }
        for (int i = 0; i < text.length(); i++) {
            if (!begins(text.substring(0, i + 1))) {
                return i;
            }
        }
        return text.length();
    }

    int read(int p) {
        List<Ink> l = pal(p);
        if (l == null) {
            return -1;
        }
        String t = text;
        text = "";
        int fault = fault(t);
        if (fault >= 0) {
            return -10 - fault;
        }
        int came = 0;
        for (String clause : t.split(";")) {
            boolean locked = clause.endsWith("!");
            String[] ends = clause.replace("!", "").split("[>:]");
            int n = ends.length == 1 ? 1 : Integer.parseInt(ends[2]);
            int a = parsed(ends[0]), b = ends.length == 1 ? a : parsed(ends[1]);
            for (int i = 0; i < n; i++) {
                int c = ramp(a, b, i, n);
                if (indexOf(l, c) < 0 && l.size() < 16) {
                    l.add(new Ink(c, locked));
                    came++;
                }
            }
        }
        return came;
    }

    private static int parsed(String colour) {
        return join(Arrays.stream(colour.split(",")).mapToInt(Integer::parseInt).toArray());
    }

    int cut(int p, int picture, int n) {
        List<Ink> l = pal(p);
        Pic q = pic(picture);
        if (l == null || q == null) {
            return -1;
        }
        if (n < 1 || n > 16) {
            return -2;
        }
        if (full(1)) {
            return -4;
        }
        l.removeIf(e -> !e.locked);
        int k = n - l.size();
        if (k > 0) {
            for (List<Integer> b : boxes(q, k)) {
                int c = meanOf(b, tally(q));
                if (indexOf(l, c) < 0) {
                    l.add(new Ink(c, false));
                }
            }
        }
        return l.size();
    }

    static boolean refineOnce(List<Ink> l, Pic q, int metric) {
        int[][] sums = new int[l.size()][4];
        if (l.isEmpty()) {
            return false;
        }
        for (int c : q.at) {
            int[] to = sums[closest(l, c, metric)];
            to[3]++;
            for (int k = 0; k < 3; k++) {
                to[k] += split(c)[k];
            }
        }
        boolean changed = false;
        for (int e = 0; e < l.size(); e++) {
            if (sums[e][3] > 0 && !l.get(e).locked) {
                int n = sums[e][3];
                int c = join(new int[] {half(sums[e][0], n), half(sums[e][1], n), half(sums[e][2], n)});
                if (indexOf(l, c) < 0) {
                    l.get(e).colour = c;
                    changed = true;
                }
            }
        }
        return changed;
    }

    int refine(int p, int picture, int n) {
        List<Ink> l = pal(p);
        Pic q = pic(picture);
        if (l == null || q == null) {
            return -1;
        }
        if (n < 1 || n > 20) {
            return -2;
        }
        if (l.isEmpty()) {
            return -3;
        }
        if (full(n)) {
            return -4;
        }
        for (int i = 0; i < n; i++) {
            if (!refineOnce(l, q, s.metric)) {
                return i;
            }
        }
        return n;
    }

    // ---- near

    int rule(int what, int v) {
        if (what < 0 || what > 3) {
            return -1;
        }
        if (v < 0 || v > new int[] {3, 4, 2, 63}[what]) {
            return -2;
        }
        int old = new int[] {s.metric, s.kernel, s.screen, s.strength}[what];
        switch (what) {
            case 0 -> s.metric = v;
            case 1 -> s.kernel = v;
            case 2 -> s.screen = v;
            default -> s.strength = v;
        }
        return old;
    }

    int far(int a, int b) {
        return colour(a) && colour(b) ? distance(s.metric, a, b) : -2;
    }

    int nearest(int p, int c) {
        return pal(p) == null ? -1 : !colour(c) ? -2 : closest(pal(p), c, s.metric);
    }

    int near(int p, int c, int k) {
        List<Ink> l = pal(p);
        return l == null ? -1 : !colour(c) || k < 0 || k >= l.size() ? -2 : ranked(l, c, s.metric).get(k);
    }

    // ---- sheets

    private static final int[][][] KERNELS = {
        {},
        {{1, 0, 1}},
        {{1, 0, 7}, {-1, 1, 3}, {0, 1, 5}, {1, 1, 1}},
        {{1, 0, 1}, {2, 0, 1}, {-1, 1, 1}, {0, 1, 1}, {1, 1, 1}, {0, 2, 1}},
        {{1, 0, 2}, {-1, 1, 1}, {0, 1, 1}}};
    private static final int[] WHOLES = {1, 1, 16, 8, 4};
    private static final int[][][] SCREENS = {
        {{0, 2}, {3, 1}},
        {{0, 8, 2, 10}, {12, 4, 14, 6}, {3, 11, 1, 9}, {15, 7, 13, 5}},
        {{6, 8, 4}, {1, 0, 3}, {5, 2, 7}}};

    static Made made(Kept k, Pic q, List<Ink> l, int way) {
        int n = q.at.length;
        Made m = new Made(way, q.wide, q.high, q.at.clone(), new int[n], new int[n], new float[3]);
        float[][][] came = new float[q.high][q.wide][3];
        int[][] screen = SCREENS[k.screen];
        int width = screen.length;
        for (int y = 0; y < q.high; y++) {
            boolean back = way == 2 && y % 2 == 1;
            for (int i = 0; i < q.wide; i++) {
                int x = back ? q.wide - 1 - i : i;
                int[] own = split(q.at[y * q.wide + x]);
                float[] held = new float[3];
                int[] looked = new int[3];
                for (int c = 0; c < 3; c++) {
                    float wanted = own[c];
                    if (way == 1 || way == 2) {
                        wanted = own[c] + came[y][x][c];
                    } else if (way >= 3) {
                        int number = screen[y % width][x % width];
                        if (way == 4 && c == 1) {
                            number = screen[x % width][y % width];
                        } else if (way == 4 && c == 2) {
                            number = width * width - 1 - number;
                        }
                        wanted = own[c] + k.strength * ((number + 0.5f) / (width * width) - 0.5f);
                    }
                    held[c] = Math.min(63f, Math.max(0f, wanted));
                    looked[c] = (int) (held[c] + 0.5f);
                }
                int e = closest(l, join(looked), k.metric);
                m.entry[y * q.wide + x] = e;
                m.colour[y * q.wide + x] = l.get(e).colour;
                if (way != 1 && way != 2) {
                    continue;
                }
                for (int[] part : KERNELS[k.kernel]) {
                    int tx = x + (back ? -part[0] : part[0]), ty = y + part[1];
                    boolean in = tx >= 0 && tx < q.wide && ty < q.high;
                    float[] to = in ? came[ty][tx] : m.lost;
                    for (int c = 0; c < 3; c++) {
                        float off = held[c] - split(l.get(e).colour)[c];
                        to[c] = to[c] + off * part[2] / WHOLES[k.kernel];
                    }
                }
            }
        }
        return m;
    }

    static int shiftAt(Made m, int i, int c) {
        return split(m.colour[i])[c] - split(m.shown[i])[c];
    }

    static int error(Made m, int c) {
        int sum = 0;
        for (int i = 0; i < m.shown.length; i++) {
            sum += shiftAt(m, i, c) * shiftAt(m, i, c);
        }
        return sum;
    }

    static int errors(Made m) {
        return error(m, 0) + error(m, 1) + error(m, 2);
    }

    static int blocks(Made m) {
        int sum = 0;
        for (int c = 0; c < 3; c++) {
            TreeMap<Integer, Integer> shift = new TreeMap<>();
            for (int i = 0; i < m.shown.length; i++) {
                shift.merge(i / m.wide / 2 * 100 + i % m.wide / 2, shiftAt(m, i, c), Integer::sum);
            }
            sum += shift.values().stream().mapToInt(v -> v * v).sum();
        }
        return sum;
    }

    int make(int picture, int p, int way) {
        Pic q = pic(picture);
        List<Ink> l = pal(p);
        if (q == null || l == null) {
            return -1;
        }
        if (way < 0 || way > 4) {
            return -2;
        }
        if (l.isEmpty()) {
            return -3;
        }
        if (full(1)) {
            return -4;
        }
        s.sheet = made(s, q, l, way);
        return (int) sum(9);
    }

    int sheet(int x, int y, int what) {
        if (what < 0 || what > 2) {
            return -1;
        }
        Made m = s.sheet;
        if (m == null) {
            return -3;
        }
        if (x < 0 || y < 0 || x >= m.wide || y >= m.high) {
            return -2;
        }
        return (what == 0 ? m.entry : what == 1 ? m.colour : m.shown)[y * m.wide + x];
    }

    long sum(int what) {
        Made m = s.sheet;
        if (m == null || what < 0 || what > 15) {
            return NO;
        }
        if (what < 3) {
            return error(m, what);
        }
        if (what >= 4 && what <= 6) {
            int sum = 0;
            for (int i = 0; i < m.shown.length; i++) {
                sum += shiftAt(m, i, what - 4);
            }
            return sum;
        }
        if (what == 8) {
            int runs = 0;
            for (int i = 0; i < m.entry.length; i++) {
                runs += i % m.wide == 0 || m.entry[i] != m.entry[i - 1] ? 1 : 0;
            }
            return runs;
        }
        if (what >= 10 && what <= 12) {
            return Float.floatToIntBits(m.lost[what - 10]);
        }
        return switch (what) {
            case 3 -> errors(m);
            case 7 -> blocks(m);
            case 9 -> Arrays.stream(m.entry).distinct().count();
            case 13 -> m.way;
            case 14 -> m.wide;
            default -> m.high;
        };
    }

    int used(int e) {
        return e < 0 || e > 15 ? -2 : s.sheet == null ? -3
            : (int) Arrays.stream(s.sheet.entry).filter(x -> x == e).count();
    }

    int taken(int k) {
        if (k < 0 || k > 4) {
            return -2;
        }
        if (s.sheet == null) {
            return -11;
        }
        String[] under = {"01234", "12", "2", "34", "4"};
        return under[k].indexOf('0' + s.sheet.way) >= 0 ? s.sheet.way : -12;
    }

    // ---- what would be

    int best(int picture, int p, int what) {
        Pic q = pic(picture);
        List<Ink> l = pal(p);
        if (q == null || l == null || what < 0 || what > 1) {
            return -1;
        }
        if (l.isEmpty()) {
            return -3;
        }
        if (full(5)) {
            return -4;
        }
        int[] blocks = new int[5];
        int best = 4;
        for (int way = 4; way >= 0; way--) {
            blocks[way] = blocks(made(s, q, l, way));
            best = blocks[way] <= blocks[best] ? way : best;
        }
        return what == 0 ? best : blocks[best];
    }

    int see(int x, int y, int e) {
        if (x == -1) {
            s.seen.clear();
            return 0;
        }
        if (x < 0 || x > 11 || y < 0 || y > 11 || e < 0 || e > 15) {
            return -2;
        }
        if (s.seen.size() == 6) {
            return -4;
        }
        s.seen.add(new int[] {x, y, e});
        return s.seen.size();
    }

    int fits(int picture, int p, int what) {
        Pic q = pic(picture);
        List<Ink> l = pal(p);
        if (q == null || l == null || what < 0 || what > 1) {
            return -1;
        }
        if (l.isEmpty()) {
            return -3;
        }
        if (full(64)) {
            return -4;
        }
        List<Integer> fit = new ArrayList<>();
        Kept k = s.copy();
        for (int strength = 0; strength < 64; strength++) {
            k.strength = strength;
            Made m = made(k, q, l, 3);
            if (s.seen.stream().allMatch(r -> r[0] < m.wide && r[1] < m.high && m.entry[r[1] * m.wide + r[0]] == r[2])) {
                fit.add(strength);
            }
        }
        return what == 0 ? fit.size() : fit.isEmpty() ? -5 : fit.get(0);
    }

    long odds(int p, int e, int part) {
        if (ink(p, e) == null || part < 0 || part > 1) {
            return NO;
        }
        int hits = 0;
        for (int r = 0; r < 64; r += 9) {
            for (int g = 0; g < 64; g += 9) {
                for (int b = 0; b < 64; b += 9) {
                    hits += nearest(p, join(new int[] {r, g, b})) == e ? 1 : 0;
                }
            }
        }
        return fraction(hits, 512, part);
    }

    int spared(int picture, int p, int what) {
        Pic q = pic(picture);
        List<Ink> l = pal(p);
        if (q == null || l == null || what < 0 || what > 1) {
            return -1;
        }
        if (full(17)) {
            return -4;
        }
        int best = -5, least = -5;
        if (l.size() > 1) {
            for (int e = l.size() - 1; e >= 0; e--) {
                if (!l.get(e).locked) {
                    List<Ink> rest = new ArrayList<>(l);
                    rest.remove(e);
                    int error = errors(made(s, q, rest, 0));
                    if (best < 0 || error <= least) {
                        best = e;
                        least = error;
                    }
                }
            }
        }
        return what == 0 ? best : least;
    }

    int plan(int what, int n) {
        if (what == -1) {
            s.plan.clear();
            return 0;
        }
        if (what < 0 || what > 3 || what == 0 && (n < 0 || n > 3)) {
            return -1;
        }
        if (n < 0 || n > new int[] {3, 3, 4, 15}[what]) {
            return -2;
        }
        if (s.plan.size() == 8) {
            return -4;
        }
        s.plan.add(new int[] {what, n});
        return s.plan.size();
    }

    int ends(int what) {
        if (what < 0 || what > 1) {
            return -1;
        }
        if (full(1)) {
            return -4;
        }
        Kept k = s.copy();
        for (int[] row : s.plan) {
            switch (row[0]) {
                case 0 -> {
                    if (k.pics[0] != null) {
                        refineOnce(k.pals.get(row[1]), k.pics[0], k.metric);
                    }
                }
                case 1 -> k.metric = row[1];
                case 2 -> k.kernel = row[1];
                default -> {
                    List<Ink> l = k.pals.get(0);
                    if (row[1] < l.size() && !l.get(row[1]).locked) {
                        l.remove(row[1]);
                    }
                }
            }
        }
        if (k.pics[0] == null || k.pals.get(0).isEmpty()) {
            return -5;
        }
        Made m = made(k, k.pics[0], k.pals.get(0), 1);
        return what == 0 ? errors(m) : blocks(m);
    }

    int book(int p, int many) {
        if (p == -1) {
            s.book.clear();
            return 0;
        }
        if (p < 0 || p > 3) {
            return -1;
        }
        if (many < 0 || many > 16) {
            return -2;
        }
        if (s.book.size() == 8) {
            return -4;
        }
        s.book.add(new int[] {p, many});
        return s.book.size();
    }

    int looked() {
        for (int i = 0; i < s.book.size(); i++) {
            if (pal(s.book.get(i)[0]).size() != s.book.get(i)[1]) {
                return i;
            }
        }
        return -5;
    }

    // ---- judging, the image, tapes

    int judge(int t, int i) {
        if (t < 0 || t > 5) {
            return -1;
        }
        if (tapes[t] != null && !(tapes[t] instanceof byte[])) {
            return -12;
        }
        if (s.sheet == null) {
            return -5;
        }
        byte[] row = tapes[t] == null ? new byte[0] : (byte[]) tapes[t];
        for (int p = 0; p < s.sheet.entry.length; p++) {
            long at = (long) i + p;
            if (i < 0 || at >= row.length) {
                return 200 + p;
            }
            if (row[(int) at] != s.sheet.entry[p]) {
                return p;
            }
        }
        return -5;
    }

    int pictures() {
        return (int) Arrays.stream(s.pics).filter(p -> p != null).count();
    }

    int image() {
        image = s.copy();
        return pictures();
    }

    int undo() {
        if (image == null) {
            return -3;
        }
        s = image.copy();
        return pictures();
    }

    int count(int what) {
        return switch (what) {
            case 0 -> pictures();
            case 1 -> s.pals.stream().mapToInt(List::size).sum();
            case 2 -> s.seen.size();
            case 3 -> s.plan.size();
            case 4 -> s.book.size();
            case 5 -> text.length();
            case 6 -> work;
            default -> -2;
        };
    }

    int tape(int t, int sort, int n) {
        if (t < 0 || t > 5) {
            return -1;
        }
        if (sort == -1) {
            tapes[t] = null;
            return 1;
        }
        if (sort < -1 || sort > 3 || n > 150) {
            return -2;
        }
        if (n < 0) {
            return -14;
        }
        tapes[t] = sort == 0 ? new byte[n] : sort == 1 ? new short[n] : sort == 2 ? new int[n] : new float[n];
        return 1;
    }

    static int length(Object row) {
        return java.lang.reflect.Array.getLength(row);
    }

    int item(int t, int i, long v) {
        if (t < 0 || t > 5) {
            return -1;
        }
        Object row = tapes[t];
        if (row == null) {
            return -11;
        }
        if (i < 0 || i >= length(row)) {
            return -13;
        }
        if (row instanceof byte[] b) {
            b[i] = (byte) v;
        } else if (row instanceof short[] h) {
            h[i] = (short) v;
        } else if (row instanceof int[] n) {
            n[i] = (int) v;
        } else if (row instanceof float[] f) {
            f[i] = v;
        }
        return 1;
    }

    long peek(int t, int i) {
        if (t < 0 || t > 5 || tapes[t] == null || i < 0 || i >= length(tapes[t])) {
            return NO;
        }
        return tapes[t] instanceof float[] f ? Float.floatToIntBits(f[i]) : java.lang.reflect.Array.getInt(tapes[t], i);
    }

    int twin(int t, int other) {
        if (t < 0 || t > 5 || other < 0 || other > 5) {
            return -1;
        }
        if (tapes[other] == null) {
            tapes[t] = null;
            return 0;
        }
        int n = length(tapes[other]);
        Object row = java.lang.reflect.Array.newInstance(tapes[other].getClass().getComponentType(), n);
        System.arraycopy(tapes[other], 0, row, 0, n);
        tapes[t] = row;
        return n;
    }

    int shift(int t, int i, int other, int j, int n) {
        if (t < 0 || t > 5 || other < 0 || other > 5) {
            return -1;
        }
        try {
            System.arraycopy(tapes[t], i, tapes[other], j, n);
            return n;
        } catch (NullPointerException e) {
            return -11;
        } catch (ArrayStoreException e) {
            return -12;
        } catch (IndexOutOfBoundsException e) {
            return -13;
        }
    }
}
