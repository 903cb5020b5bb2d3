/** Promises 1 to 11: a new object, and pictures. */
public final class PictureTest {
    private static final int MIN = Integer.MIN_VALUE, MAX = Integer.MAX_VALUE;
    private static final Due due = new Due("PictureTest");

    public static void main(String[] args) {
        newObject();
        picture();
        paint();
        noise();
        shade();
        pixel();
        of();
        many();
        common();
        mean();
        boxesOfFour();
        boxesOfLikeSpans();
        boxesByChannel();
        boxAnswers();
        due.close();
    }

    private static int red(int v) {
        return 4096 * v;
    }

    private static void newObject() {
        due.promise(1);
        DitherDesk x = new DitherDesk();
        for (int i = 0; i < 7; i++) {
            due.is("count " + i, x.count(i), 0);
        }
        for (int i = 0; i < 4; i++) {
            due.is("of " + i, x.of(i, 0), -1);
            due.is("pixel " + i, x.pixel(i, 0, 0), -1);
            due.is("told " + i, x.told(i, 0, 0), -1);
            due.is("nearest " + i, x.nearest(i, 0), -5);
            due.is("rule " + i, x.rule(i, 0), new int[] {0, 0, 0, 16}[i]);
        }
        for (int i = 0; i < 6; i++) {
            due.is("item " + i, x.item(i, 0, 0), -11);
        }
        due.is("sum", x.sum(13), Long.MIN_VALUE);
        due.is("undo", x.undo(), -3);
        due.is("looked", x.looked(), -5);
        DitherDesk y = new DitherDesk();
        x.picture(0, 2, 2);
        x.entry(0, 1);
        due.is("another one's pictures", y.count(0), 0);
        due.is("another one's entries", y.count(1), 0);
    }

    private static void picture() {
        due.promise(2);
        DitherDesk x = new DitherDesk();
        due.is("1 by 1", x.picture(0, 1, 1), 1);
        due.is("12 by 12", x.picture(3, 12, 12), 144);
        due.is("5 by 3", x.picture(1, 5, 3), 15);
        due.is("wide", x.of(1, 0), 5);
        due.is("high", x.of(1, 1), 3);
        due.is("count", x.count(0), 3);
        x.paint(1, 4, 2, 77);
        int[][] wrong = {{-1, 1}, {13, 1}, {1, 0}, {1, -1}, {1, 13}, {MIN, 5}, {MAX, 5}, {5, MIN}, {5, MAX}};
        for (int[] w : wrong) {
            due.is("picture 1 " + w[0] + " " + w[1], x.picture(1, w[0], w[1]), -2);
        }
        due.is("as it was", x.pixel(1, 4, 2), 77);
        due.is("of that colour", x.many(1, 77), 1);
        for (int p : new int[] {-1, 4, MIN, MAX}) {
            due.is("picture " + p, x.picture(p, 1, 1), -1);
            due.is("NONE ahead of BAD", x.picture(p, 13, 1), -1);
        }
        due.is("anew", x.picture(1, 3, 5), 15);
        due.is("all of colour 0", x.many(1, 0), 15);
        due.is("its last", x.pixel(1, 2, 4), 0);
        for (int high : new int[] {0, -1, 99, MIN, MAX, 3}) {
            x.picture(1, 3, 5);
            due.is("wide 0, high " + high, x.picture(1, 0, high), 0);
            due.is("missing", x.of(1, 0), -1);
            due.is("one fewer", x.count(0), 2);
        }
        due.is("missing already", x.picture(1, 0, 0), 0);
    }

    private static void paint() {
        due.promise(3);
        DitherDesk x = new DitherDesk();
        x.picture(2, 4, 3);
        due.is("first", x.paint(2, 3, 2, 262143), 0);
        due.is("again", x.paint(2, 3, 2, 5), 262143);
        due.is("again", x.paint(2, 3, 2, 0), 5);
        x.paint(2, 1, 2, 9);
        due.is("there", x.pixel(2, 1, 2), 9);
        due.is("not elsewhere", x.many(2, 0), 11);
        for (int p : new int[] {-1, 0, 1, 3, 4, MIN, MAX}) {
            due.is("paint " + p, x.paint(p, 0, 0, 1), -1);
            due.is("NONE ahead of BAD", x.paint(p, -1, 0, 1), -1);
        }
        int[][] wrong = {{-1, 0, 1}, {4, 0, 1}, {0, -1, 1}, {0, 3, 1}, {0, 0, -1}, {0, 0, 262144},
            {MIN, 0, 1}, {MAX, 0, 1}, {0, MIN, 1}, {0, MAX, 1}, {0, 0, MIN}, {0, 0, MAX}, {3, 3, 1}};
        for (int[] w : wrong) {
            due.is("paint 2 " + w[0] + " " + w[1] + " " + w[2], x.paint(2, w[0], w[1], w[2]), -2);
        }
        due.is("nothing changed", x.many(2, 0), 11);
    }

    private static void noise() {
        due.promise(4);
        for (int seed : new int[] {7, 0, -1, 123456789, MIN, MAX}) {
            DitherDesk x = new DitherDesk();
            x.picture(1, 3, 2);
            due.is("noise " + seed, x.noise(1, seed), 6);
            int z = seed;
            for (int p = 0; p < 6; p++) {
                int colour = 0;
                for (int c = 0; c < 3; c++) {
                    z = z * 1103515245 + 12345;
                    colour = colour * 64 + (z >>> 9) % 64;
                }
                due.is("pixel " + p, x.pixel(1, p % 3, p / 3), colour);
            }
        }
        DitherDesk x = new DitherDesk();
        x.picture(1, 12, 12);
        due.is("all of them", x.noise(1, 7), 144);
        due.is("the first by 7", x.pixel(1, 0, 0), 174568);
        for (int p : new int[] {-1, 0, 2, 3, 4, MIN, MAX}) {
            due.is("noise " + p, x.noise(p, 1), -1);
        }
    }

    private static void shade() {
        due.promise(5);
        DitherDesk x = new DitherDesk();
        x.picture(0, 4, 2);
        due.is("shade", x.shade(0, Due.rgb(0, 63, 10), Due.rgb(63, 0, 11)), 8);
        int[] shades = {Due.rgb(0, 63, 10), Due.rgb(21, 42, 10), Due.rgb(42, 21, 10), Due.rgb(63, 0, 11)};
        for (int p = 0; p < 8; p++) {
            due.is("pixel " + p, x.pixel(0, p % 4, p / 4), shades[p % 4]);
        }
        x.picture(1, 1, 3);
        due.is("one wide", x.shade(1, 77, 99), 3);
        due.is("all of the first colour", x.many(1, 77), 3);
        x.picture(1, 2, 1);
        x.shade(1, 77, 99);
        due.is("two wide: the first", x.pixel(1, 0, 0), 77);
        due.is("two wide: the other", x.pixel(1, 1, 0), 99);
        x.picture(1, 12, 12);
        due.is("twelve wide", x.shade(1, 262143, 0), 144);
        due.is("cut, not rounded", x.pixel(1, 5, 11), Due.rgb(34, 34, 34)); // 63 * 6 / 11 = 34.36
        due.is("cut, not rounded", x.pixel(1, 1, 0), Due.rgb(57, 57, 57)); // 63 * 10 / 11 = 57.27
        due.is("cut, not rounded", x.pixel(1, 4, 0), Due.rgb(40, 40, 40)); // 63 * 7 / 11 = 40.09
        due.is("cut, not rounded", x.pixel(1, 2, 0), Due.rgb(51, 51, 51)); // 63 * 9 / 11 = 51.54
        for (int p : new int[] {-1, 2, 3, 4, MIN, MAX}) {
            due.is("shade " + p, x.shade(p, 1, 2), -1);
            due.is("NONE ahead of BAD", x.shade(p, -1, 2), -1);
        }
        for (int c : new int[] {-1, 262144, MIN, MAX}) {
            due.is("from " + c, x.shade(0, c, 0), -2);
            due.is("to " + c, x.shade(0, 0, c), -2);
        }
        due.is("nothing changed", x.pixel(0, 3, 1), shades[3]);
    }

    private static void pixel() {
        due.promise(6);
        DitherDesk x = new DitherDesk();
        x.picture(3, 3, 2);
        for (int p = 0; p < 6; p++) {
            x.paint(3, p % 3, p / 3, 100 + p);
        }
        for (int p = 0; p < 6; p++) {
            due.is("pixel " + p, x.pixel(3, p % 3, p / 3), 100 + p);
        }
        for (int p : new int[] {-1, 0, 4, MIN, MAX}) {
            due.is("pixel of " + p, x.pixel(p, 0, 0), -1);
            due.is("NONE ahead of BAD", x.pixel(p, -1, -1), -1);
        }
        int[][] wrong = {{-1, 0}, {3, 0}, {0, -1}, {0, 2}, {2, 2}, {MIN, 0}, {MAX, 0}, {0, MIN}, {0, MAX}};
        for (int[] w : wrong) {
            due.is("pixel " + w[0] + " " + w[1], x.pixel(3, w[0], w[1]), -2);
        }
    }

    private static void of() {
        due.promise(7);
        DitherDesk x = new DitherDesk();
        x.picture(0, 12, 7);
        int[] first = {12, 7, 1, 0, 0};
        for (int what = 0; what < 5; what++) {
            due.is("all of colour 0: " + what, x.of(0, what), first[what]);
        }
        Due.row(x, 1, 9, 5, 262143, 5, 9);
        int[] second = {5, 1, 3, 5, 262143};
        for (int what = 0; what < 5; what++) {
            due.is("of 1 " + what, x.of(1, what), second[what]);
        }
        for (int what : new int[] {-1, 5, MIN, MAX}) {
            due.is("of 1 " + what, x.of(1, what), -1);
        }
        for (int p : new int[] {-1, 2, 3, 4, MIN, MAX}) {
            due.is("of " + p, x.of(p, 0), -1);
        }
    }

    private static void many() {
        due.promise(8);
        DitherDesk x = new DitherDesk();
        Due.row(x, 1, 9, 5, 262143, 5, 9, 9);
        due.is("three", x.many(1, 9), 3);
        due.is("two", x.many(1, 5), 2);
        due.is("one", x.many(1, 262143), 1);
        due.is("none", x.many(1, 6), 0);
        due.is("none of 0", x.many(1, 0), 0);
        for (int p : new int[] {-1, 0, 4, MIN, MAX}) {
            due.is("many " + p, x.many(p, 9), -1);
            due.is("NONE ahead of BAD", x.many(p, -1), -1);
        }
        for (int c : new int[] {-1, 262144, MIN, MAX}) {
            due.is("many 1 " + c, x.many(1, c), -2);
        }
    }

    private static void common() {
        due.promise(9);
        DitherDesk x = new DitherDesk();
        x.picture(1, 12, 12);
        x.shade(1, 0, 262143);
        due.is("twelve alike", x.common(1, 11), 262143);
        Due.row(x, 2, 7, 9, 3, 7, 3, 12, 1, 12, 12);
        int[] order = {12, 3, 7, 1, 9};
        for (int k = 0; k < 5; k++) {
            due.is("common " + k, x.common(2, k), order[k]);
        }
        for (int k : new int[] {-1, 5, MIN, MAX}) {
            due.is("common " + k, x.common(2, k), -2);
        }
        for (int p : new int[] {-1, 0, 4, MIN, MAX}) {
            due.is("common of " + p, x.common(p, 0), -1);
            due.is("NONE ahead of BAD", x.common(p, -1), -1);
        }
    }

    private static void mean() {
        due.promise(10);
        long no = Long.MIN_VALUE;
        DitherDesk x = new DitherDesk();
        Due.row(x, 0, Due.rgb(1, 0, 3), Due.rgb(2, 0, 3), Due.rgb(7, 0, 3), Due.rgb(12, 0, 7));
        long[][] due4 = {{11, 2}, {0, 1}, {4, 1}}; // 22 of 4, 0 of 4, 16 of 4
        for (int c = 0; c < 3; c++) {
            due.is("above, channel " + c, x.mean(0, c, 0), due4[c][0]);
            due.is("below, channel " + c, x.mean(0, c, 1), due4[c][1]);
        }
        x.paint(0, 0, 0, Due.rgb(0, 1, 0));
        due.is("21 of 4, above", x.mean(0, 0, 0), 21);
        due.is("21 of 4, below", x.mean(0, 0, 1), 4);
        due.is("1 of 4, above", x.mean(0, 1, 0), 1);
        due.is("1 of 4, below", x.mean(0, 1, 1), 4);
        x.picture(1, 12, 12);
        x.shade(1, 262143, 262143);
        due.is("63 of 1, above", x.mean(1, 2, 0), 63);
        due.is("63 of 1, below", x.mean(1, 2, 1), 1);
        for (int p : new int[] {-1, 2, 4, MIN, MAX}) {
            due.is("mean of " + p, x.mean(p, 0, 0), no);
        }
        for (int w : new int[] {-1, 3, MIN, MAX}) {
            due.is("channel " + w, x.mean(0, w, 0), no);
            due.is("part " + (w == 3 ? 2 : w), x.mean(0, 0, w == 3 ? 2 : w), no);
        }
    }

    private static void boxIs(DitherDesk x, int n, int i, int... told) {
        for (int what = 0; what < told.length; what++) {
            due.is("box " + i + " of " + n + ", what " + what, x.box(0, n, i, what), told[what]);
        }
    }

    private static void boxesOfFour() {
        due.promise(11);
        DitherDesk x = new DitherDesk();
        Due.row(x, 0, red(63), red(0), red(20), red(10));
        boxIs(x, 1, 0, 4, 4, red(23), 63, 0);
        boxIs(x, 2, 0, 2, 2, red(5), 10, 0);
        boxIs(x, 2, 1, 2, 2, red(42), 43, red(20)); // 41.5: halves up
        boxIs(x, 3, 0, 2, 2, red(5), 10, 0);
        boxIs(x, 3, 1, 1, 1, red(20), 0, red(20));
        boxIs(x, 3, 2, 1, 1, red(63), 0, red(63));
        boxIs(x, 16, 0, 1, 1, 0, 0, 0);
        boxIs(x, 16, 3, 1, 1, red(63), 0, red(63));
        due.is("no fifth", x.box(0, 16, 4, 0), -2);
        Due.row(x, 0, 1, 6, 6, 6, 6, 6);
        boxIs(x, 2, 0, 1, 1, 1, 0, 1); // half is reached by the last colour, which never stays
        boxIs(x, 2, 1, 5, 1, 6, 0, 6);
        boxIs(x, 1, 0, 6, 2, 5, 5, 1); // 31 of 6
        Due.row(x, 0, 0, 1, 1, 2, 3);
        boxIs(x, 2, 0, 3, 2, 1, 1, 0); // 1 of 5, 3 of 5: half is reached; the mean is 2 of 3
        boxIs(x, 2, 1, 2, 2, 3, 1, 2); // 5 of 2
        Due.row(x, 0, 0, 0, 1, 2);
        boxIs(x, 2, 0, 2, 1, 0, 0, 0); // half just reached
        x.picture(0, 12, 12);
        boxIs(x, 16, 0, 144, 1, 0, 0, 0);
        due.is("one colour, one box", x.box(0, 16, 1, 0), -2);
    }

    private static void boxesOfLikeSpans() {
        DitherDesk x = new DitherDesk();
        Due.row(x, 0, red(0), red(0), red(4), red(40), red(44));
        boxIs(x, 3, 0, 2, 1, red(0)); // like spans: that with most pixels is cut
        boxIs(x, 3, 2, 2, 2, red(42), 4, red(40));
        int a = Due.rgb(10, 0, 0), b = Due.rgb(10, 4, 0), c = Due.rgb(0, 40, 0), d = Due.rgb(0, 44, 0);
        Due.row(x, 0, a, b, c, d);
        boxIs(x, 2, 0, 2, 2, Due.rgb(0, 42, 0), 4, c); // by their least colours, not by the cut
        boxIs(x, 2, 1, 2, 2, Due.rgb(10, 2, 0), 4, a);
        boxIs(x, 3, 0, 1, 1, c, 0, c); // like spans and pixels: that with the least colour is cut
        boxIs(x, 3, 1, 1, 1, d, 0, d);
        boxIs(x, 3, 2, 2, 2, Due.rgb(10, 2, 0), 4, a);
        Due.row(x, 0, a, a, b, c, d);
        boxIs(x, 3, 0, 2, 2, Due.rgb(0, 42, 0), 4, c); // most pixels goes ahead of the least colour
        boxIs(x, 3, 1, 2, 1, a, 0, a);
    }

    private static void boxesByChannel() {
        DitherDesk x = new DitherDesk();
        int a = Due.rgb(0, 10, 0), b = Due.rgb(5, 0, 0), c = Due.rgb(10, 5, 0);
        Due.row(x, 0, c, b, a);
        boxIs(x, 2, 0, 2, 2, Due.rgb(3, 5, 0), 10, a); // red and green are alike: red
        boxIs(x, 2, 1, 1, 1, c, 0, c);
        Due.row(x, 0, Due.rgb(0, 0, 9), Due.rgb(0, 8, 0), Due.rgb(0, 0, 4));
        boxIs(x, 2, 0, 2, 2, Due.rgb(0, 4, 2), 8, 4); // by blue: 0 and 4, then 9
        boxIs(x, 2, 1, 1, 1, 9, 0, 9);
        Due.row(x, 0, Due.rgb(5, 2, 0), Due.rgb(5, 0, 0), Due.rgb(5, 1, 0), Due.rgb(0, 3, 0));
        boxIs(x, 2, 0, 2, 2, Due.rgb(3, 2, 0), 5, Due.rgb(0, 3, 0)); // of like red, by numbers
        boxIs(x, 2, 1, 2, 2, Due.rgb(5, 2, 0), 1, Due.rgb(5, 1, 0));
        int d = Due.rgb(0, 5, 0);
        Due.row(x, 0, d, d, d, Due.rgb(1, 0, 0), Due.rgb(1, 9, 0));
        boxIs(x, 2, 0, 4, 2, Due.rgb(0, 4, 0), 5, d); // by green 0, 5, 9, though 5 has the least number
        boxIs(x, 2, 1, 1, 1, Due.rgb(1, 9, 0), 0, Due.rgb(1, 9, 0));
    }

    private static void boxAnswers() {
        DitherDesk x = new DitherDesk();
        Due.row(x, 0, 1, 2, 3);
        for (int p : new int[] {-1, 1, 4, MIN, MAX}) {
            due.is("box of " + p, x.box(p, 1, 0, 0), -1);
            due.is("NONE ahead of BAD", x.box(p, 0, 0, 0), -1);
        }
        for (int w : new int[] {-1, 5, MIN, MAX}) {
            due.is("what " + w, x.box(0, 1, 0, w), -1);
            due.is("NONE ahead of BAD", x.box(0, 17, 9, w), -1);
        }
        for (int n : new int[] {-1, 0, 17, MIN, MAX}) {
            due.is("n " + n, x.box(0, n, 0, 0), -2);
        }
        for (int i : new int[] {-1, 3, 16, MIN, MAX}) {
            due.is("i " + i, x.box(0, 16, i, 0), -2);
        }
        due.is("none of these is counted", x.count(6), 0);
        x.box(0, 16, 2, 0);
        due.is("one is", x.count(6), 1);
        Due.spend(x, 5999);
        due.is("the last work", x.box(0, 2, 0, 0), 2);
        due.is("6000", x.count(6), 6000);
        due.is("FULL", x.box(0, 2, 0, 0), -4);
        due.is("FULL ahead of the last BAD", x.box(0, 2, 9, 0), -4);
        due.is("BAD ahead of FULL", x.box(0, 0, 0, 0), -2);
        due.is("NONE ahead of FULL", x.box(1, 1, 0, 0), -1);
        due.is("6000 still", x.count(6), 6000);
    }
}
