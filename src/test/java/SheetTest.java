/** Promises 25 to 29: the sheet. */
public final class SheetTest {
    private static final int MIN = Integer.MIN_VALUE, MAX = Integer.MAX_VALUE;
    private static final long NO = Long.MIN_VALUE;
    private static final Due due = new Due("SheetTest");

    public static void main(String[] args) {
        makeAnswers();
        makePlain();
        makeByKernels();
        makeByTurns();
        makeByChannels();
        makeClipped();
        makeByScreens();
        greatestOfScreens();
        makeTurned();
        sheet();
        sum();
        lostByKernels();
        lostToTheBit();
        used();
        taken();
        due.close();
    }

    private static int red(int v) {
        return 4096 * v;
    }

    private static void greys(DitherDesk x, int palette, int step) {
        Due.mix(x, palette);
        for (int v = 0; v < 16; v++) {
            x.entry(palette, v * step);
        }
    }

    private static void entriesAre(String what, DitherDesk x, int wide, int... entries) {
        for (int p = 0; p < entries.length; p++) {
            due.is(what + ", pixel " + p % wide + " " + p / wide, x.sheet(p % wide, p / wide, 0), entries[p]);
        }
    }

    private static void makeAnswers() {
        due.promise(25);
        DitherDesk x = new DitherDesk();
        x.picture(1, 2, 2);
        x.entry(2, 9);
        for (int p : new int[] {-1, 0, 2, 4, MIN, MAX}) {
            due.is("picture " + p, x.make(p, 2, 0), -1);
            due.is("NONE ahead of BAD", x.make(p, 2, 5), -1);
        }
        for (int p : new int[] {-1, 4, MIN, MAX}) {
            due.is("palette " + p, x.make(1, p, 0), -1);
        }
        for (int w : new int[] {-1, 5, MIN, MAX}) {
            due.is("way " + w, x.make(1, 2, w), -2);
            due.is("BAD ahead of STATE", x.make(1, 0, w), -2);
        }
        due.is("no entries", x.make(1, 0, 0), -3);
        due.is("none is made", x.sheet(0, 0, 0), -3);
        due.is("none is counted", x.count(6), 0);
        for (int way = 0; way < 5; way++) {
            due.is("way " + way, x.make(1, 2, way), 1);
            due.is("its way", x.sum(13), way);
            due.is("work", x.count(6), way + 1);
        }
        Due.spend(x, 5999);
        due.is("the last", x.make(1, 2, 1), 1);
        due.is("FULL", x.make(1, 2, 0), -4);
        due.is("STATE ahead of FULL", x.make(1, 0, 0), -3);
        due.is("BAD ahead of FULL", x.make(1, 2, 5), -2);
        due.is("the sheet as it was", x.sum(13), 1);
        due.is("6000", x.count(6), 6000);
    }

    private static void makePlain() {
        DitherDesk x = new DitherDesk();
        x.rule(1, 2);
        Due.row(x, 0, red(0), red(6), red(5), red(63), red(4));
        Due.mix(x, 0, red(10), red(0), red(50));
        due.is("unlike entries", x.make(0, 0, 0), 3);
        entriesAre("plain", x, 5, 1, 0, 0, 2, 1);
        x.rule(0, 1);
        Due.row(x, 0, Due.rgb(0, 3, 0));
        Due.mix(x, 0, 0, Due.rgb(4, 3, 0));
        x.make(0, 0, 0);
        entriesAre("by the metric", x, 1, 1);
    }

    /** One pixel that is 16 (by kernel 1: 10) off, and fifteen entries that take all else as it comes. */
    private static void makeByKernels() {
        DitherDesk x = new DitherDesk();
        greys(x, 0, 4096);
        x.picture(0, 4, 3);
        x.paint(0, 1, 0, red(31));
        int[][] came = {
            {0, 15, 0, 0, 0, 0, 0, 0, 0, 0, 0, 0},
            null,
            {0, 15, 7, 0, 3, 5, 1, 0, 0, 0, 0, 0},
            {0, 15, 2, 2, 2, 2, 2, 0, 0, 2, 0, 0},
            {0, 15, 8, 0, 4, 4, 0, 0, 0, 0, 0, 0}};
        for (int kernel = 0; kernel < 5; kernel++) {
            if (came[kernel] != null) {
                x.rule(1, kernel);
                x.make(0, 0, 1);
                entriesAre("spread by " + kernel, x, 4, came[kernel]);
                x.make(0, 0, 2);
                entriesAre("serpent by " + kernel, x, 4, came[kernel]);
                x.make(0, 0, 0);
                entriesAre("plain by " + kernel, x, 4, came[0]);
            }
        }
        x.rule(1, 1);
        x.paint(0, 1, 0, red(25));
        x.make(0, 0, 1);
        entriesAre("spread by 1", x, 4, 0, 15, 10, 0, 0, 0, 0, 0, 0, 0, 0, 0);
        x.paint(0, 1, 0, red(40));
        x.make(0, 0, 1);
        entriesAre("passed on and lost at the edge", x, 4, 0, 15, 15, 10, 0, 0, 0, 0, 0, 0, 0, 0);
    }

    /** The same in the second row: by SERPENT it goes from the right. */
    private static void makeByTurns() {
        DitherDesk x = new DitherDesk();
        greys(x, 0, 64);
        x.picture(0, 4, 4);
        x.paint(0, 2, 1, 64 * 31);
        int[][] spread = {null, null,
            {0, 0, 15, 7, 0, 3, 5, 1, 0, 0, 0, 0},
            {0, 0, 15, 2, 0, 2, 2, 2, 0, 0, 2, 0},
            {0, 0, 15, 8, 0, 4, 4, 0, 0, 0, 0, 0}};
        int[][] serpent = {null, null,
            {0, 7, 15, 0, 0, 1, 5, 3, 0, 0, 0, 0},
            {2, 2, 15, 0, 0, 2, 2, 2, 0, 0, 2, 0},
            {0, 8, 15, 0, 0, 0, 4, 4, 0, 0, 0, 0}};
        for (int kernel = 2; kernel < 5; kernel++) {
            x.rule(1, kernel);
            for (int way = 1; way < 3; way++) {
                x.make(0, 0, way);
                int[] rest = way == 1 ? spread[kernel] : serpent[kernel];
                entriesAre("the row above", x, 4, 0, 0, 0, 0);
                for (int p = 0; p < 12; p++) {
                    due.is("kernel " + kernel + ", way " + way + ", pixel " + p, x.sheet(p % 4, 1 + p / 4, 0), rest[p]);
                }
            }
        }
    }

    private static void makeByChannels() {
        DitherDesk x = new DitherDesk();
        x.rule(1, 2);
        greys(x, 0, 1);
        Due.row(x, 0, 31, 0);
        x.make(0, 0, 1);
        entriesAre("blue", x, 2, 15, 7);
        Due.mix(x, 0, Due.rgb(20, 20, 20), Due.rgb(0, 0, 0), Due.rgb(0, 0, 9));
        Due.row(x, 0, Due.rgb(36, 4, 20), Due.rgb(0, 9, 9));
        // off 16, -16, 0: comes 7, -7, 0: looked for is (7, 2, 9)
        x.make(0, 0, 1);
        entriesAre("each channel for itself", x, 2, 0, 2);
        Due.mix(x, 0, 0, Due.rgb(8, 0, 0));
        Due.row(x, 0, Due.rgb(1, 0, 0), Due.rgb(4, 0, 0));
        // 1 of 16ths by 7: 4.4375 looks for 4, of like ones the least
        x.make(0, 0, 1);
        entriesAre("to the nearest whole", x, 2, 0, 0);
        Due.row(x, 0, Due.rgb(2, 0, 0), Due.rgb(4, 0, 0));
        // 4.875 looks for 5
        x.make(0, 0, 1);
        entriesAre("to the nearest whole", x, 2, 0, 1);
        x.rule(1, 4);
        Due.row(x, 0, Due.rgb(1, 0, 0), Due.rgb(4, 0, 0));
        // 4.5 looks for 5
        x.make(0, 0, 1);
        entriesAre("halves up", x, 2, 0, 1);
    }

    private static void makeClipped() {
        DitherDesk x = new DitherDesk();
        x.rule(1, 1);
        Due.mix(x, 0, red(40), red(63), red(0));
        Due.row(x, 0, red(51), red(60), red(40));
        // 51 goes to 40 (off 11, the nearer one), 71 is held as 63, which is not off: nothing comes to 40
        x.make(0, 0, 1);
        entriesAre("above", x, 3, 0, 1, 0);
        due.is("nothing is lost", x.sum(10), 0);
        Due.mix(x, 0, red(20), red(0));
        Due.row(x, 0, red(11), red(5), red(10));
        // 11 goes to 20 (off -9), -4 is held as 0, which is not off: nothing comes to 10, which goes to 20
        x.make(0, 0, 1);
        entriesAre("below", x, 3, 0, 1, 0);
        due.is("lost", x.sum(10), Float.floatToIntBits(-10f));
    }

    private static final int[][] SCREENS = {
        {0, 2, 3, 1},
        {0, 8, 2, 10, 12, 4, 14, 6, 3, 11, 1, 9, 15, 7, 13, 5},
        {6, 8, 4, 1, 0, 3, 5, 2, 7}};
    private static final int[] WIDTHS = {2, 4, 3};

    /** Strengths and entries by which each number of the screen has the entry of that number. */
    private static void makeByScreens() {
        DitherDesk x = new DitherDesk();
        int[] strength = {16, 16, 18};
        int[] base = {8, 8, 10};
        x.rule(1, 2);
        for (int screen = 0; screen < 3; screen++) {
            int n = SCREENS[screen].length;
            int width = WIDTHS[screen];
            x.rule(2, screen);
            x.rule(3, strength[screen]);
            Due.mix(x, 0);
            for (int m = 0; m < n; m++) {
                x.entry(0, red(screen == 0 ? 2 + 4 * m : screen == 1 ? m + 1 : 2 * m + 2));
            }
            x.picture(0, 11, 10);
            x.shade(0, red(base[screen]), red(base[screen]));
            due.is("all numbers", x.make(0, 0, 3), n);
            for (int p = 0; p < 110; p++) {
                int m = SCREENS[screen][p / 11 % width * width + p % 11 % width];
                due.is("screen " + screen + ", pixel " + p, x.sheet(p % 11, p / 11, 0), m);
            }
            due.is("nothing is lost", x.sum(10), 0);
            x.rule(3, 0);
            due.is("without strength", x.make(0, 0, 3), 1);
        }
    }

    /** Darker than above: the greatest number has entries above its own, too. */
    private static void greatestOfScreens() {
        DitherDesk x = new DitherDesk();
        for (int v = 0; v < 16; v++) {
            x.entry(0, red(v));
        }
        x.picture(0, 4, 4);
        x.shade(0, red(2), red(2));
        int[] strength = {16, 16, 18};
        int[][] greatest = {{0, 1, 8}, {0, 3, 10}, {1, 0, 10}}; // 2 + 6, 2 + 7.5, 2 + 8
        for (int screen = 0; screen < 3; screen++) {
            x.rule(2, screen);
            x.rule(3, strength[screen]);
            x.make(0, 0, 3);
            int[] due3 = greatest[screen];
            due.is("greatest of screen " + screen, x.sheet(due3[0], due3[1], 0), due3[2]);
        }
    }

    private static void makeTurned() {
        int[] strength = {16, 16, 18};
        int[] base = {8, 8, 10};
        for (int screen = 0; screen < 3; screen++) {
            DitherDesk x = new DitherDesk();
            int n = SCREENS[screen].length;
            int width = WIDTHS[screen];
            x.rule(2, screen);
            x.rule(3, strength[screen]);
            x.picture(0, 8, 7);
            for (int c = 0; c < 3; c++) {
                int unit = c == 0 ? 4096 : c == 1 ? 64 : 1;
                Due.mix(x, 0);
                for (int m = 0; m < n; m++) {
                    x.entry(0, unit * (screen == 0 ? 2 + 4 * m : screen == 1 ? m + 1 : 2 * m + 2));
                }
                x.shade(0, unit * base[screen], unit * base[screen]);
                x.make(0, 0, 4);
                for (int p = 0; p < 56; p++) {
                    int column = p % 8 % width, row = p / 8 % width;
                    int m = SCREENS[screen][c == 1 ? column * width + row : row * width + column];
                    due.is("screen " + screen + ", channel " + c + ", pixel " + p,
                        x.sheet(p % 8, p / 8, 0), c == 2 ? n - 1 - m : m);
                }
            }
        }
    }

    private static void sheet() {
        due.promise(26);
        DitherDesk x = new DitherDesk();
        due.is("none is made", x.sheet(0, 0, 0), -3);
        due.is("NONE ahead of STATE", x.sheet(0, 0, 3), -1);
        due.is("STATE ahead of BAD", x.sheet(-1, 0, 0), -3);
        x.picture(0, 3, 2);
        x.shade(0, red(0), red(20));
        Due.mix(x, 0, red(19), red(2));
        x.make(0, 0, 0);
        for (int p = 0; p < 6; p++) {
            int entry = p % 3 < 2 ? 1 : 0; // 0, 10, 20: 10 is 8 from 2 and 9 from 19
            due.is("entry " + p, x.sheet(p % 3, p / 3, 0), entry);
            due.is("colour " + p, x.sheet(p % 3, p / 3, 1), red(entry == 0 ? 19 : 2));
            due.is("the picture's " + p, x.sheet(p % 3, p / 3, 2), red(10 * (p % 3)));
        }
        for (int w : new int[] {-1, 3, MIN, MAX}) {
            due.is("what " + w, x.sheet(0, 0, w), -1);
            due.is("NONE ahead of BAD", x.sheet(9, 9, w), -1);
        }
        int[][] wrong = {{-1, 0}, {3, 0}, {0, -1}, {0, 2}, {MIN, 0}, {MAX, 0}, {0, MIN}, {0, MAX}};
        for (int[] w : wrong) {
            due.is("sheet " + w[0] + " " + w[1], x.sheet(w[0], w[1], 0), -2);
        }
        x.change(0, 0, 77);
        x.drop(0, 1);
        x.paint(0, 2, 1, 88);
        due.is("the entry as it was then", x.sheet(2, 1, 0), 0);
        due.is("the colour as it was then", x.sheet(2, 1, 1), red(19));
        due.is("the picture's as it was then", x.sheet(2, 1, 2), red(20));
        x.picture(0, 0, 0);
        due.is("a picture that goes", x.sheet(2, 1, 2), red(20));
        due.is("its error", x.sum(3), 2 * (4 + 64 + 1));
    }

    private static void sum() {
        due.promise(27);
        DitherDesk x = new DitherDesk();
        for (int what = -1; what < 17; what++) {
            due.is("none is made " + what, x.sum(what), NO);
        }
        x.picture(2, 12, 12);
        x.entry(3, 262143);
        x.make(2, 3, 0);
        due.is("a greater sheet, made ahead", x.sum(3), 3 * 144 * 3969);
        x.picture(0, 3, 3);
        Due.mix(x, 0, 0, Due.rgb(10, 20, 30));
        int[] colours = {Due.rgb(1, 0, 0), Due.rgb(2, 0, 0), Due.rgb(0, 5, 0), Due.rgb(0, 0, 3), Due.rgb(9, 22, 30),
            Due.rgb(10, 20, 33), Due.rgb(4, 0, 0), Due.rgb(12, 20, 30), Due.rgb(0, 0, 7)};
        for (int p = 0; p < 9; p++) {
            x.paint(0, p % 3, p / 3, colours[p]);
        }
        due.is("make", x.make(0, 0, 0), 2);
        // entries 0 0 0, 0 1 1, 0 1 0
        // shifts: red -1 -2 0, 0 1 0, -4 -2 0; green 0 0 -5, 0 -2 0, 0; blue 0, -3 0 -3, 0 0 -7
        long[] sums = {1 + 4 + 1 + 16 + 4, 25 + 4, 9 + 9 + 49, 122, -8, -7, -13, 0, 6, 2, 0, 0, 0, 0, 3, 3};
        // blocks: red -2, 0, -6, 0; green -2, -5, 0, 0; blue -3, -3, 0, -7
        sums[7] = 40 + 29 + 67;
        for (int what = 0; what < 16; what++) {
            due.is("sum " + what, x.sum(what), sums[what]);
        }
        for (int what : new int[] {-1, 16, MIN, MAX}) {
            due.is("sum " + what, x.sum(what), NO);
        }
        Due.row(x, 1, 0, 0, 0, red(10), 0);
        x.make(1, 0, 2);
        due.is("way", x.sum(13), 2);
        due.is("wide", x.sum(14), 5);
        due.is("high", x.sum(15), 1);
        due.is("runs", x.sum(8), 1);
        x.picture(1, 1, 4);
        x.make(1, 0, 3);
        due.is("the first of each row is a run", x.sum(8), 4);
        due.is("wide", x.sum(14), 1);
        due.is("high", x.sum(15), 4);
    }

    private static void lostByKernels() {
        DitherDesk x = new DitherDesk();
        x.picture(0, 1, 1);
        x.paint(0, 0, 0, Due.rgb(16, 8, 0));
        x.entry(0, Due.rgb(0, 0, 24));
        float[] shares = {0f, 1f, 1f, 0.75f, 1f};
        for (int kernel = 0; kernel < 5; kernel++) {
            x.rule(1, kernel);
            for (int way = 0; way < 5; way++) {
                x.make(0, 0, way);
                float part = way == 1 || way == 2 ? shares[kernel] : 0f;
                due.is("lost red, kernel " + kernel + " way " + way, x.sum(10), Float.floatToIntBits(16 * part));
                due.is("lost green, kernel " + kernel + " way " + way, x.sum(11), Float.floatToIntBits(8 * part));
                due.is("lost blue, kernel " + kernel + " way " + way, x.sum(12), Float.floatToIntBits(part == 0f ? 0f : -24 * part));
            }
        }
        x.rule(1, 2);
        Due.mix(x, 0, 0);
        x.picture(0, 2, 1);
        x.paint(0, 0, 0, red(16));
        x.make(0, 0, 1);
        // 3 + 5 + 1 are lost below the first; 7 comes to the other, which loses all of it
        due.is("from two pixels", x.sum(10), Float.floatToIntBits(16f));
        x.picture(0, 2, 2);
        x.paint(0, 0, 0, red(16));
        x.make(0, 0, 1);
        due.is("at the left, at the right and below", x.sum(10), Float.floatToIntBits(16f));
    }

    /** Each float operation in its order, on thirds that no float holds. */
    private static void lostToTheBit() {
        DitherDesk x = new DitherDesk();
        x.rule(1, 2);
        Due.mix(x, 0, 0, red(63));
        Due.row(x, 0, red(20), red(21), red(22), red(23), red(24), red(25), red(26));
        x.make(0, 0, 1);
        float came = 0f;
        float lost = 0f;
        for (int i = 0; i < 7; i++) {
            float held = 20 + i + came;
            int entry = (int) (held + 0.5f) > 31 ? 63 : 0;
            float off = held - entry;
            came = off * 7 / 16;
            if (i == 6) {
                lost = lost + came;
            }
            lost = lost + off * 3 / 16;
            lost = lost + off * 5 / 16;
            lost = lost + off * 1 / 16;
            due.is("entry " + i, x.sheet(i, 0, 1), red(entry));
        }
        due.is("lost", x.sum(10), Float.floatToIntBits(lost));
        DitherDesk y = new DitherDesk();
        y.rule(1, 2);
        y.picture(0, 12, 12);
        y.paint(0, 11, 0, red(1));
        y.entry(0, 0);
        y.make(0, 0, 2);
        Model model = new Model();
        model.rule(1, 2);
        model.picture(0, 12, 12);
        model.paint(0, 11, 0, red(1));
        model.entry(0, 0);
        model.make(0, 0, 2);
        due.is("small parts", y.sum(10), model.sum(10));
    }

    private static void used() {
        due.promise(28);
        DitherDesk x = new DitherDesk();
        for (int e : new int[] {-1, 16, MIN, MAX}) {
            due.is("BAD ahead of STATE", x.used(e), -2);
        }
        due.is("none is made", x.used(0), -3);
        due.is("none is made", x.used(15), -3);
        Due.row(x, 0, 0, 9, 9, 0, 9, 30);
        Due.mix(x, 0, 0, 30, 50, 9);
        x.make(0, 0, 0);
        int[] many = {2, 1, 0, 3, 0};
        for (int e = 0; e < 5; e++) {
            due.is("used " + e, x.used(e), many[e]);
        }
        due.is("used 15", x.used(15), 0);
        for (int e : new int[] {-1, 16, MIN, MAX}) {
            due.is("used " + e, x.used(e), -2);
        }
        x.drop(0, 3);
        due.is("of the sheet, not the palette", x.used(3), 3);
    }

    private static void taken() {
        due.promise(29);
        DitherDesk x = new DitherDesk();
        for (int k : new int[] {-1, 5, MIN, MAX}) {
            due.is("BAD ahead of NOTHING", x.taken(k), -2);
        }
        for (int k = 0; k < 5; k++) {
            due.is("none is made", x.taken(k), -11);
        }
        x.picture(0, 1, 1);
        x.entry(0, 0);
        String[] kinds = {"0", "01", "012", "03", "034"};
        for (int way = 0; way < 5; way++) {
            x.make(0, 0, way);
            for (int k = 0; k < 5; k++) {
                due.is("way " + way + " for " + k, x.taken(k), kinds[way].indexOf('0' + k) >= 0 ? way : -12);
            }
            due.is("BAD", x.taken(5), -2);
            due.is("BAD", x.taken(-1), -2);
        }
    }
}
