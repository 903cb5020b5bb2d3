import java.util.Random;

/** Long random runs (of written seeds): every answer of DitherDesk is that of the Model. */
public final class ModelTest {
    private static final int RUNS = 1200;
    private static final int CALLS = 512;

    private final Random draw;
    private final DitherDesk desk = new DitherDesk();
    private final Model model = new Model();
    private final int wildness;
    private final int colours;
    private String call = "";
    private long got;
    private long want;

    private ModelTest(int seed) {
        draw = new Random(seed);
        wildness = new int[] {3, 12, 40, 200}[seed % 4];
        colours = seed % 3;
    }

    public static void main(String[] args) {
        Due due = new Due("ModelTest");
        for (int seed = 0; seed < RUNS; seed++) {
            new ModelTest(seed).run(due, seed);
        }
        due.close();
    }

    private void run(Due due, int seed) {
        for (int i = 0; i < CALLS; i++) {
            boolean isFirst = i < 12;
            step(isFirst ? new int[] {0, 0, 2, 3, 11, 18, 19, 19, 24, 27, 30, 42}[i] : draw.nextInt(60));
            due.is("seed " + seed + ", call " + i + ": " + call, got, want);
            if (got != want) {
                return;
            }
        }
    }

    private void both(String name, long answer, long modelled, long... args) {
        StringBuilder told = new StringBuilder(name);
        for (long arg : args) {
            told.append(' ').append(arg);
        }
        call = told.toString();
        got = answer;
        want = modelled;
    }

    /** Mostly within the bounds; once in a while a little or far outside them. */
    private int some(int least, int most) {
        if (draw.nextInt(wildness) == 0) {
            int[] wild = {least - 1, most + 1, -1, -2, 64, Integer.MIN_VALUE, Integer.MAX_VALUE, draw.nextInt()};
            return wild[draw.nextInt(wild.length)];
        }
        return least + draw.nextInt(most - least + 1);
    }

    private int pic() {
        return draw.nextInt(3) > 0 ? 0 : some(0, 3);
    }

    private int pal() {
        return draw.nextInt(3) > 0 ? 0 : some(0, 3);
    }

    /** Many colours, few of them, or few that lie close together: so that there are ties. */
    private int colour() {
        if (draw.nextInt(3 * wildness) == 0) {
            return some(0, 262143);
        }
        if (colours == 0) {
            return draw.nextInt(262144);
        }
        int[] shade = colours == 1 ? new int[] {0, 1, 31, 32, 62, 63} : new int[] {20, 21, 22, 23};
        return Due.rgb(shade[draw.nextInt(shade.length)], shade[draw.nextInt(shade.length)],
            shade[draw.nextInt(shade.length)]);
    }

    private void step(int what) {
        if (what < 12) {
            pictureStep(what);
        } else if (what < 22) {
            paletteStep(what);
        } else if (what < 30) {
            nearStep(what);
        } else if (what < 42) {
            wouldBeStep(what);
        } else if (what < 52) {
            deskStep(what);
        } else {
            feedStep(what);
        }
    }

    private void pictureStep(int what) {
        int p = pic(), a = some(0, 11), b = some(0, 11), c = colour(), d = colour();
        switch (what) {
            case 0 -> {
                int w = some(draw.nextInt(20) == 0 ? 0 : 1, 12), h = some(1, 12);
                both("picture", desk.picture(p, w, h), model.picture(p, w, h), p, w, h);
            }
            case 1 -> both("paint", desk.paint(p, a, b, c), model.paint(p, a, b, c), p, a, b, c);
            case 2 -> {
                int seed = draw.nextInt();
                both("noise", desk.noise(p, seed), model.noise(p, seed), p, seed);
            }
            case 3 -> both("shade", desk.shade(p, c, d), model.shade(p, c, d), p, c, d);
            case 4 -> both("pixel", desk.pixel(p, a, b), model.pixel(p, a, b), p, a, b);
            case 5 -> {
                int k = some(0, 4);
                both("of", desk.of(p, k), model.of(p, k), p, k);
            }
            case 6 -> both("many", desk.many(p, c), model.many(p, c), p, c);
            case 7 -> both("common", desk.common(p, a), model.common(p, a), p, a);
            case 8 -> {
                int k = some(0, 2), part = some(0, 1);
                both("mean", desk.mean(p, k, part), model.mean(p, k, part), p, k, part);
            }
            case 9, 10 -> {
                int n = some(1, 16), i = draw.nextInt(n > 0 && n < 17 ? n : 1), k = some(0, 4);
                both("box", desk.box(p, n, i, k), model.box(p, n, i, k), p, n, i, k);
            }
            default -> both("paint", desk.paint(p, a, b, c), model.paint(p, a, b, c), p, a, b, c);
        }
    }

    private void paletteStep(int what) {
        int p = pal(), e = some(0, 7), c = colour(), q = pic();
        switch (what) {
            case 12, 13 -> both("entry", desk.entry(p, c), model.entry(p, c), p, c);
            case 14 -> both("drop", desk.drop(p, e), model.drop(p, e), p, e);
            case 15 -> both("change", desk.change(p, e, c), model.change(p, e, c), p, e, c);
            case 16 -> {
                boolean b = draw.nextBoolean();
                both("lock", desk.lock(p, e, b), model.lock(p, e, b), p, e, b ? 1 : 0);
            }
            case 17, 18 -> {
                int k = some(0, 4);
                both("told", desk.told(p, e, k), model.told(p, e, k), p, e, k);
            }
            case 19 -> {
                int n = some(1, 16);
                both("cut", desk.cut(p, q, n), model.cut(p, q, n), p, q, n);
            }
            default -> {
                int n = draw.nextInt(8) == 0 ? some(1, 20) : some(1, 3);
                both("refine", desk.refine(p, q, n), model.refine(p, q, n), p, q, n);
            }
        }
    }

    private void nearStep(int what) {
        int p = pal(), c = colour(), d = colour(), k = some(0, 5), q = pic();
        switch (what) {
            case 22 -> {
                int r = some(0, 3), v = draw.nextInt(6) == 0 ? some(0, 63) : some(0, 4);
                both("rule", desk.rule(r, v), model.rule(r, v), r, v);
            }
            case 23 -> both("far", desk.far(c, d), model.far(c, d), c, d);
            case 24 -> both("nearest", desk.nearest(p, c), model.nearest(p, c), p, c);
            case 25 -> both("near", desk.near(p, c, k), model.near(p, c, k), p, c, k);
            case 26, 27 -> {
                int w = some(0, 4);
                both("make", desk.make(q, p, w), model.make(q, p, w), q, p, w);
            }
            case 28 -> {
                int x = some(0, 11), y = some(0, 11), w = some(0, 2);
                both("sheet", desk.sheet(x, y, w), model.sheet(x, y, w), x, y, w);
            }
            default -> {
                int r = 3, v = some(0, 63);
                both("rule", desk.rule(r, v), model.rule(r, v), r, v);
            }
        }
    }

    private void wouldBeStep(int what) {
        int q = pic(), p = pal(), k = some(0, 1), e = some(0, 15);
        switch (what) {
            case 30, 31 -> {
                int w = some(0, 15);
                both("sum", desk.sum(w), model.sum(w), w);
            }
            case 32 -> both("used", desk.used(e), model.used(e), e);
            case 33 -> both("taken", desk.taken(e % 5), model.taken(e % 5), e % 5);
            case 34 -> both("best", desk.best(q, p, k), model.best(q, p, k), q, p, k);
            case 35 -> {
                int x = draw.nextInt(12) == 0 ? -1 : some(0, 3), y = some(0, 3);
                int now = Math.max(model.sheet(x, y, 0), 0);
                both("see", desk.see(x, y, now), model.see(x, y, now), x, y, now);
            }
            case 36 -> both("fits", desk.fits(q, p, k), model.fits(q, p, k), q, p, k);
            case 37 -> {
                int i = some(0, 5);
                both("odds", desk.odds(p, i, k), model.odds(p, i, k), p, i, k);
            }
            case 38 -> both("spared", desk.spared(q, p, k), model.spared(q, p, k), q, p, k);
            case 39 -> {
                int w = draw.nextInt(12) == 0 ? -1 : some(0, 3), n = some(0, 4);
                both("plan", desk.plan(w, n), model.plan(w, n), w, n);
            }
            case 40 -> both("ends", desk.ends(k), model.ends(k), k);
            default -> {
                int b = draw.nextInt(12) == 0 ? -1 : some(0, 3);
                int n = b < 0 || b > 3 || draw.nextInt(5) == 0 ? some(0, 16) : model.pal(b).size();
                both("book", desk.book(b, n), model.book(b, n), b, n);
            }
        }
    }

    private void deskStep(int what) {
        int t = draw.nextInt(3) > 0 ? draw.nextInt(2) : some(0, 5), u = draw.nextInt(3) > 0 ? draw.nextInt(2) : some(0, 5);
        int i = some(0, 9), j = some(0, 9);
        switch (what) {
            case 42 -> {
                int sort = draw.nextInt(3) == 0 ? 0 : some(-1, 3), n = some(0, 20);
                both("tape", desk.tape(t, sort, n), model.tape(t, sort, n), t, sort, n);
            }
            case 43 -> {
                long v = draw.nextInt(4) == 0 ? draw.nextLong() >> draw.nextInt(64) : Math.max(model.sheet(i, 0, 0), 0);
                both("item", desk.item(t, i, v), model.item(t, i, v), t, i, v);
            }
            case 44 -> both("peek", desk.peek(t, i), model.peek(t, i), t, i);
            case 45 -> both("twin", desk.twin(t, u), model.twin(t, u), t, u);
            case 46 -> {
                int n = some(0, 9);
                both("shift", desk.shift(t, i, u, j, n), model.shift(t, i, u, j, n), t, i, u, j, n);
            }
            case 47 -> {
                int from = draw.nextInt(3) > 0 ? 0 : i;
                both("judge", desk.judge(t, from), model.judge(t, from), t, from);
            }
            case 48 -> both("looked", desk.looked(), model.looked());
            case 49 -> {
                if (draw.nextInt(3) == 0) {
                    both("image", desk.image(), model.image());
                } else {
                    both("undo", desk.undo(), model.undo());
                }
            }
            default -> {
                int w = some(0, 6);
                both("count", desk.count(w), model.count(w), w);
            }
        }
    }

    /** A whole clause (with a slip in it at times) at once: feeds of a sign each would take long to be one. */
    private void feedStep(int what) {
        if (what == 59) {
            int p = pal();
            both("read", desk.read(p), model.read(p), p);
            return;
        }
        StringBuilder clause = new StringBuilder(model.text.isEmpty() ? "" : ";");
        clause.append(written());
        if (draw.nextInt(2) == 0) {
            clause.append('>').append(written()).append(':').append(2 + draw.nextInt(7));
        }
        clause.append(draw.nextInt(3) == 0 ? "!" : "");
        if (draw.nextInt(12) == 0) {
            clause.setCharAt(draw.nextInt(clause.length()), "0123456789,;:>! x".charAt(draw.nextInt(17)));
        }
        long answers = 0;
        long due = 0;
        for (int i = 0; i < clause.length(); i++) {
            int sign = draw.nextInt(300) == 0 ? some(0, 127) : clause.charAt(i);
            answers = answers * 131 + desk.feed(sign);
            due = due * 131 + model.feed(sign);
        }
        both("feed " + clause, answers, due);
    }

    private String written() {
        int c = colour() & 262143;
        String two = draw.nextInt(9) == 0 ? "%02d,%02d,%02d" : "%d,%d,%d";
        return String.format(two, c / 4096, c / 64 % 64, c % 64 + (draw.nextInt(25) == 0 ? 1 : 0));
    }
}
