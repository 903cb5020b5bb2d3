/** Promises 39 to 47: judging, the image, tapes. */
public final class DeskTest {
    private static final int MIN = Integer.MIN_VALUE, MAX = Integer.MAX_VALUE;
    private static final long NO = Long.MIN_VALUE;
    private static final Due due = new Due("DeskTest");

    public static void main(String[] args) {
        judge();
        image();
        undoAll();
        undoSheetAndRows();
        count();
        workInAll();
        tape();
        item();
        peek();
        floats();
        twin();
        shift();
        shiftWithinOne();
        due.close();
    }

    private static void judge() {
        due.promise(39);
        DitherDesk x = new DitherDesk();
        for (int t : new int[] {-1, 6, MIN, MAX}) {
            due.is("tape " + t, x.judge(t, 0), -1);
        }
        due.is("no sheet, nothing on the tape", x.judge(0, 0), -5);
        due.is("no sheet, a place below 0", x.judge(0, -1), -5);
        x.tape(0, 0, 10);
        due.is("no sheet", x.judge(0, 0), -5);
        for (int sort = 1; sort < 4; sort++) {
            x.tape(1, sort, 10);
            due.is("CAST ahead of -5, sort " + sort, x.judge(1, 0), -12);
        }
        x.picture(0, 2, 2);
        x.paint(0, 1, 0, 9);
        x.paint(0, 1, 1, 9);
        Due.mix(x, 0, 9, 5, 0);
        x.make(0, 0, 0);
        // entries 2 0 2 0
        int[] row = {1, 2, 0, 2, 0, 2, 0, 2, 1, 2};
        for (int i = 0; i < 10; i++) {
            x.item(0, i, row[i]);
        }
        int[] answers = {0, -5, 0, -5, 0, 3, 0, 1, 0, 201, 200, 200};
        for (int i = 0; i < 12; i++) {
            due.is("judge from " + i, x.judge(0, i), answers[i]);
        }
        x.tape(2, 0, 3);
        x.item(2, 0, 2);
        x.item(2, 2, 2);
        due.is("three looked at", x.judge(2, 0), 203);
        due.is("otherwise ahead of the end", x.judge(2, 1), 0);
        x.tape(2, 0, 4);
        x.item(2, 0, 2);
        x.item(2, 2, 2);
        due.is("as long as the sheet", x.judge(2, 0), -5);
        x.item(2, 3, 256);
        due.is("its lowest bits", x.judge(2, 0), -5);
        x.tape(2, 0, 0);
        due.is("a row of no items", x.judge(2, 0), 200);
        for (int i : new int[] {-1, MIN, MAX, MAX - 1, 150}) {
            due.is("judge from " + i, x.judge(0, i), 200);
        }
        due.is("nothing on the tape", x.judge(3, 0), 200);
        x.tape(0, -1, 0);
        due.is("nothing on the tape", x.judge(0, 0), 200);
        for (int sort = 1; sort < 4; sort++) {
            x.tape(1, sort, 10);
            due.is("sort " + sort, x.judge(1, 0), -12);
            due.is("sort " + sort + ", a place below 0", x.judge(1, -1), -12);
        }
        for (int t : new int[] {-1, 6, MIN, MAX}) {
            due.is("tape " + t, x.judge(t, 0), -1);
        }
        x.picture(0, 12, 12);
        x.make(0, 0, 0);
        x.tape(5, 0, 150);
        for (int i = 0; i < 149; i++) {
            x.item(5, i, 2);
        }
        due.is("all 144", x.judge(5, 5), -5);
        due.is("the last is otherwise", x.judge(5, 6), 143);
        due.is("143 looked at", (x.item(5, 149, 2) == 1) ? x.judge(5, 7) : 0, 343);
    }

    private static void image() {
        due.promise(40);
        DitherDesk x = new DitherDesk();
        due.is("no pictures", x.image(), 0);
        x.picture(0, 1, 1);
        x.picture(3, 2, 2);
        due.is("two pictures", x.image(), 2);
        x.picture(0, 0, 0);
        due.is("back to two", x.undo(), 2);
        x.picture(0, 0, 0);
        due.is("taken anew", x.image(), 1);
        x.picture(1, 1, 1);
        x.picture(2, 1, 1);
        due.is("back to one", x.undo(), 1);
        due.is("that one", x.of(3, 0), 2);
        due.is("not the first image", x.of(0, 0), -1);
    }

    private static void undoAll() {
        due.promise(41);
        DitherDesk x = new DitherDesk();
        due.is("there is none", x.undo(), -3);
        x.picture(0, 3, 2);
        x.noise(0, 5);
        int before = x.pixel(0, 2, 1);
        Due.mix(x, 1, 10, 20);
        x.lock(1, 1, true);
        int[] rules = {3, 4, 2, 63};
        for (int what = 0; what < 4; what++) {
            x.rule(what, rules[what]);
        }
        x.feed('1');
        x.tape(0, 2, 2);
        x.item(0, 0, 5);
        due.is("image", x.image(), 1);
        x.paint(0, 2, 1, 77);
        x.picture(0, 2, 2);
        x.picture(2, 1, 1);
        x.drop(1, 0);
        x.lock(1, 0, false);
        x.entry(0, 30);
        for (int what = 0; what < 4; what++) {
            x.rule(what, 1);
        }
        x.feed('2');
        x.item(0, 0, 6);
        x.tape(1, 1, 1);
        x.box(0, 1, 0, 0);
        for (int i = 0; i < 3; i++) {
            due.is("undo", x.undo(), 1);
            due.is("wide", x.of(0, 0), 3);
            due.is("high", x.of(0, 1), 2);
            due.is("pixel", x.pixel(0, 2, 1), before);
            due.is("the other picture", x.of(2, 0), -1);
            due.is("entries", x.count(1), 2);
            due.is("entry", x.told(1, 0, 0), 10);
            due.is("lock", x.told(1, 0, 1), 0);
            due.is("lock", x.told(1, 1, 1), 1);
            for (int what = 0; what < 4; what++) {
                due.is("rule " + what, x.rule(what, 0), rules[what]);
            }
            x.picture(0, 0, 0);
            x.entry(1, 50 + i);
        }
        due.is("the text is as it is", x.count(5), 2);
        due.is("tapes are as they are", x.peek(0, 0), 6);
        due.is("tapes are as they are", x.peek(1, 0), 0);
        due.is("work is as it is", x.count(6), 1);
        DitherDesk y = new DitherDesk();
        due.is("there is none", y.undo(), -3);
    }

    private static void undoSheetAndRows() {
        DitherDesk x = new DitherDesk();
        due.is("image", x.image(), 0);
        x.picture(0, 1, 1);
        x.paint(0, 0, 0, 4096 * 16);
        x.entry(0, 0);
        x.rule(1, 2);
        x.make(0, 0, 1);
        x.see(0, 0, 1);
        x.plan(0, 0);
        x.book(0, 1);
        due.is("undo", x.undo(), 0);
        due.is("no sheet", x.sum(13), NO);
        due.is("no sheet", x.sheet(0, 0, 0), -3);
        for (int what = 0; what < 5; what++) {
            due.is("count " + what, x.count(what), 0);
        }
        x.picture(0, 1, 1);
        x.paint(0, 0, 0, 4096 * 16);
        x.entry(0, 0);
        x.rule(1, 2);
        x.make(0, 0, 2);
        x.see(0, 0, 1);
        x.see(0, 0, 2);
        x.plan(3, 0);
        x.book(0, 1);
        x.book(0, 7);
        due.is("image", x.image(), 1);
        x.picture(0, 2, 2);
        x.entry(0, 5);
        x.make(0, 0, 0);
        x.see(-1, 0, 0);
        x.plan(-1, 0);
        x.book(-1, 0);
        x.see(0, 0, 0);
        due.is("undo", x.undo(), 1);
        due.is("the sheet's way", x.sum(13), 2);
        due.is("wide", x.sum(14), 1);
        due.is("its picture", x.sheet(0, 0, 2), 4096 * 16);
        due.is("its error", x.sum(0), 256);
        due.is("lost", x.sum(10), Float.floatToIntBits(16f));
        due.is("its entry", x.sheet(0, 0, 0), 0);
        undoSheet();
        due.is("seen", x.count(2), 2);
        due.is("seen entries 1 and 2: none fits", x.fits(0, 0, 0), 0);
        due.is("the plan", x.count(3), 1);
        due.is("the plan drops the entry", x.ends(0), -5);
        due.is("the book", x.looked(), 1);
    }

    private static void undoSheet() {
        DitherDesk x = new DitherDesk();
        x.picture(0, 3, 2);
        for (int p = 0; p < 6; p++) {
            x.paint(0, p % 3, p / 3, 10 * p);
        }
        Due.mix(x, 0, 50, 40, 30, 20, 10, 1);
        x.make(0, 0, 0);
        x.image();
        x.picture(1, 4, 5);
        x.make(1, 0, 3);
        x.undo();
        due.is("wide", x.sum(14), 3);
        due.is("high", x.sum(15), 2);
        due.is("unlike entries", x.sum(9), 6);
        for (int p = 0; p < 6; p++) {
            due.is("entry", x.sheet(p % 3, p / 3, 0), 5 - p);
            due.is("its colour", x.sheet(p % 3, p / 3, 1), p == 0 ? 1 : 10 * p);
            due.is("the picture's", x.sheet(p % 3, p / 3, 2), 10 * p);
        }
    }

    private static void count() {
        due.promise(42);
        DitherDesk x = new DitherDesk();
        for (int what = 0; what < 7; what++) {
            due.is("at first " + what, x.count(what), 0);
        }
        for (int what : new int[] {-1, 7, MIN, MAX}) {
            due.is("count " + what, x.count(what), -2);
        }
        x.picture(1, 2, 2);
        x.picture(3, 2, 2);
        x.picture(3, 2, 3);
        Due.mix(x, 0, 1, 2, 3);
        Due.mix(x, 3, 1, 2);
        for (int i = 0; i < 3; i++) {
            x.see(0, 0, 0);
        }
        for (int i = 0; i < 4; i++) {
            x.plan(1, 0);
        }
        for (int i = 0; i < 6; i++) {
            x.book(1, 0);
        }
        Due.feedAll(x, "12345678");
        x.refine(0, 1, 7);
        int[] counts = {2, 5, 3, 4, 6, 8, 7};
        for (int what = 0; what < 7; what++) {
            due.is("count " + what, x.count(what), counts[what]);
        }
    }

    private static void workInAll() {
        DitherDesk x = new DitherDesk();
        x.picture(0, 2, 2);
        x.noise(0, 3);
        int work = 0;
        x.cut(0, 0, 3);
        due.is("cut", x.count(6), work += 1);
        x.box(0, 2, 0, 0);
        due.is("box", x.count(6), work += 1);
        x.refine(0, 0, 20);
        due.is("refine", x.count(6), work += 20);
        x.make(0, 0, 4);
        due.is("make", x.count(6), work += 1);
        x.best(0, 0, 0);
        due.is("best", x.count(6), work += 5);
        x.fits(0, 0, 0);
        due.is("fits", x.count(6), work += 64);
        x.spared(0, 0, 0);
        due.is("spared", x.count(6), work += 17);
        x.ends(0);
        due.is("ends", x.count(6), work += 1);
        x.odds(0, 0, 0);
        x.nearest(0, 0);
        x.near(0, 0, 0);
        x.common(0, 0);
        x.mean(0, 0, 0);
        x.of(0, 2);
        due.is("nothing else", x.count(6), work);
        Due.spend(x, 6000);
        due.is("6000", x.count(6), 6000);
        due.is("cut", x.cut(0, 0, 3), -4);
        due.is("box", x.box(0, 2, 0, 0), -4);
        due.is("refine", x.refine(0, 0, 1), -4);
        due.is("make", x.make(0, 0, 4), -4);
        due.is("best", x.best(0, 0, 0), -4);
        due.is("fits", x.fits(0, 0, 0), -4);
        due.is("spared", x.spared(0, 0, 0), -4);
        due.is("ends", x.ends(0), -4);
        due.is("6000 still", x.count(6), 6000);
        due.is("what needs none goes on", x.odds(0, 0, 1) > 0 ? 1 : 0, 1);
    }

    private static void tape() {
        due.promise(43);
        DitherDesk x = new DitherDesk();
        for (int t = 0; t < 6; t++) {
            for (int sort = 0; sort < 4; sort++) {
                due.is("tape " + t + " sort " + sort, x.tape(t, sort, 150), 1);
                due.is("all 0", x.peek(t, 149), 0);
                due.is("no more", x.peek(t, 150), NO);
                x.item(t, 149, -1);
                x.item(t, 0, -1);
            }
            due.is("anew", x.tape(t, 2, 150), 1);
            due.is("all 0", x.peek(t, 149), 0);
            due.is("all 0", x.peek(t, 0), 0);
            due.is("of none", x.tape(t, 2, 0), 1);
            due.is("of none", x.item(t, 0, 1), -13);
        }
        for (int n : new int[] {0, -1, 151, MIN, MAX}) {
            x.tape(1, 1, 5);
            due.is("nothing, n " + n, x.tape(1, -1, n), 1);
            due.is("nothing is there", x.item(1, 0, 1), -11);
        }
        x.tape(1, 1, 5);
        x.item(1, 4, 7);
        for (int sort : new int[] {-2, 4, MIN, MAX}) {
            due.is("sort " + sort, x.tape(1, sort, 5), -2);
            due.is("BAD ahead of SIZE", x.tape(1, sort, -1), -2);
        }
        for (int sort = 0; sort < 4; sort++) {
            due.is("n 151", x.tape(1, sort, 151), -2);
            due.is("n " + MAX, x.tape(1, sort, MAX), -2);
            due.is("n -1", x.tape(1, sort, -1), -14);
            due.is("n " + MIN, x.tape(1, sort, MIN), -14);
        }
        due.is("as it was", x.peek(1, 4), 7);
        for (int t : new int[] {-1, 6, MIN, MAX}) {
            due.is("tape " + t, x.tape(t, 0, 1), -1);
            due.is("NONE ahead of BAD", x.tape(t, 9, 1), -1);
            due.is("NONE ahead of SIZE", x.tape(t, 0, -1), -1);
        }
    }

    private static void item() {
        due.promise(44);
        DitherDesk x = new DitherDesk();
        for (int t : new int[] {-1, 6, MIN, MAX}) {
            due.is("tape " + t, x.item(t, 0, 0), -1);
        }
        due.is("nothing is there", x.item(0, 0, 0), -11);
        due.is("NOTHING ahead of PLACE", x.item(0, -1, 0), -11);
        long[] values = {0, 1, -1, 127, 128, 255, 256, -129, 32767, 32768, 65535, 70000, Integer.MAX_VALUE,
            0x80000000L, 0x123456789ABCDEFL, Long.MAX_VALUE, Long.MIN_VALUE};
        for (int t = 0; t < 3; t++) {
            x.tape(t, t, 3);
            for (long v : values) {
                due.is("item " + t + " " + v, x.item(t, 1, v), 1);
                due.is("peek " + t + " " + v, x.peek(t, 1), t == 0 ? (byte) v : t == 1 ? (short) v : (int) v);
                due.is("the ones beside it", x.peek(t, 0) | x.peek(t, 2), 0);
            }
            for (int i : new int[] {-1, 3, 150, MIN, MAX}) {
                due.is("place " + i, x.item(t, i, 0), -13);
            }
            due.is("the last place", x.item(t, 2, 1), 1);
            due.is("the first place", x.item(t, 0, 1), 1);
        }
    }

    private static void floats() {
        DitherDesk x = new DitherDesk();
        x.tape(3, 3, 2);
        long[] values = {0, 1, -1, 2, 3, 10, -7, 63, 16777215, 16777216, 16777217, 16777219, -16777217, 33554431,
            Integer.MAX_VALUE, Integer.MIN_VALUE, 1L << 40, (1L << 40) + 1, Long.MAX_VALUE, Long.MIN_VALUE,
            0x123456789ABCDEFL, -0x123456789ABCDEFL, 9007199791611905L};
        for (long v : values) {
            due.is("item " + v, x.item(3, 1, v), 1);
            due.is("peek " + v, x.peek(3, 1), Float.floatToIntBits((float) v));
        }
        for (int i : new int[] {-1, 2, 150, MIN, MAX}) {
            due.is("place " + i, x.item(3, i, 0), -13);
        }
    }

    private static void peek() {
        due.promise(45);
        DitherDesk x = new DitherDesk();
        for (int t : new int[] {-1, 6, MIN, MAX}) {
            due.is("tape " + t, x.peek(t, 0), NO);
        }
        due.is("nothing there", x.peek(5, 0), NO);
        x.tape(5, 3, 4);
        for (int i = 0; i < 4; i++) {
            x.item(5, i, i);
        }
        int[] bits = {0, 0x3F800000, 0x40000000, 0x40400000};
        for (int i = 0; i < 4; i++) {
            due.is("float " + i, x.peek(5, i), bits[i]);
        }
        x.item(5, 0, -1);
        due.is("float -1", x.peek(5, 0), 0xBF800000);
        for (int i : new int[] {-1, 4, 149, 150, MIN, MAX}) {
            due.is("place " + i, x.peek(5, i), NO);
        }
        x.tape(5, -1, 0);
        due.is("nothing there", x.peek(5, 0), NO);
    }

    private static void twin() {
        due.promise(46);
        DitherDesk x = new DitherDesk();
        for (int t : new int[] {-1, 6, MIN, MAX}) {
            due.is("tape " + t, x.twin(t, 0), -1);
            due.is("other " + t, x.twin(0, t), -1);
        }
        for (int sort = 0; sort < 4; sort++) {
            x.tape(1, sort, 7);
            x.item(1, 6, 5);
            x.tape(2, 3 - sort, 9);
            due.is("twin", x.twin(2, 1), 7);
            due.is("its last", x.peek(2, 6), sort == 3 ? Float.floatToIntBits(5f) : 5);
            due.is("no more", x.peek(2, 7), NO);
            x.item(2, 6, 6);
            due.is("of its own", x.peek(1, 6), sort == 3 ? Float.floatToIntBits(5f) : 5);
            due.is("of the same sort", x.shift(2, 0, 1, 0, 1), 1);
            due.is("of the same sort", x.judge(2, 0), sort == 0 ? -5 : -12);
        }
        due.is("of itself", x.twin(2, 2), 7);
        x.tape(3, 0, 0);
        due.is("of none", x.twin(2, 3), 0);
        due.is("of none: a row", x.item(2, 0, 1), -13);
        x.tape(2, 1, 3);
        due.is("nothing", x.twin(2, 4), 0);
        due.is("nothing is there", x.item(2, 0, 1), -11);
        due.is("nothing of nothing", x.twin(4, 4), 0);
        due.is("still a row", x.twin(4, 1), 7);
    }

    private static void rowIs(DitherDesk x, int tape, int... items) {
        for (int i = 0; i < items.length; i++) {
            due.is("item " + i + " of tape " + tape, x.peek(tape, i), items[i]);
        }
        due.is("no more", x.peek(tape, items.length), NO);
    }

    private static void count(DitherDesk x, int tape, int sort, int n) {
        x.tape(tape, sort, n);
        for (int i = 0; i < n; i++) {
            x.item(tape, i, i + 1);
        }
    }

    private static void shift() {
        due.promise(47);
        DitherDesk x = new DitherDesk();
        for (int t : new int[] {-1, 6, MIN, MAX}) {
            due.is("tape " + t, x.shift(t, 0, 0, 0, 0), -1);
            due.is("other " + t, x.shift(0, 0, t, 0, 0), -1);
            due.is("NONE ahead of PLACE", x.shift(0, -1, t, 0, 0), -1);
        }
        count(x, 0, 0, 5);
        due.is("nothing here", x.shift(1, 0, 0, 0, 0), -11);
        due.is("nothing there", x.shift(0, 0, 1, 0, 0), -11);
        due.is("NOTHING ahead of PLACE", x.shift(0, -1, 1, 0, 0), -11);
        for (int sort = 1; sort < 4; sort++) {
            x.tape(1, sort, 5);
            due.is("sorts", x.shift(0, 0, 1, 0, 1), -12);
            due.is("sorts", x.shift(1, 0, 0, 0, 1), -12);
            due.is("CAST ahead of PLACE", x.shift(1, -1, 0, 0, 1), -12);
        }
        x.tape(1, 0, 4);
        due.is("three", x.shift(0, 1, 1, 0, 3), 3);
        rowIs(x, 1, 2, 3, 4, 0);
        rowIs(x, 0, 1, 2, 3, 4, 5);
        due.is("one, at the ends", x.shift(0, 4, 1, 3, 1), 1);
        rowIs(x, 1, 2, 3, 4, 5);
        due.is("none, at the ends", x.shift(0, 5, 1, 4, 0), 0);
        int[][] wrong = {{-1, 0, 1}, {0, -1, 1}, {0, 0, -1}, {5, 0, 1}, {2, 0, 4}, {0, 4, 1}, {0, 1, 4}, {0, 0, 5}, {6, 0, 0}, {0, 5, 0},
            {MIN, 0, 1}, {MAX, 0, 1}, {0, MIN, 1}, {0, MAX, 1}, {0, 0, MIN}, {0, 0, MAX}, {1, 1, MAX}, {MAX, MAX, MAX}};
        for (int[] w : wrong) {
            due.is("place " + w[0] + " " + w[1] + " " + w[2], x.shift(0, w[0], 1, w[1], w[2]), -13);
        }
        rowIs(x, 1, 2, 3, 4, 5);
        x.tape(2, 0, 150);
        due.is("back", x.shift(1, 0, 2, 146, 4), 4);
        due.is("the last", x.peek(2, 149), 5);
        x.tape(3, 3, 2);
        x.item(3, 0, -7);
        x.tape(4, 3, 1);
        due.is("floats", x.shift(3, 0, 4, 0, 1), 1);
        due.is("floats", x.peek(4, 0), Float.floatToIntBits(-7f));
    }

    private static void shiftWithinOne() {
        DitherDesk x = new DitherDesk();
        count(x, 0, 2, 7);
        due.is("up", x.shift(0, 0, 0, 2, 5), 5);
        rowIs(x, 0, 1, 2, 1, 2, 3, 4, 5);
        count(x, 0, 2, 7);
        due.is("down", x.shift(0, 2, 0, 0, 5), 5);
        rowIs(x, 0, 3, 4, 5, 6, 7, 6, 7);
        count(x, 0, 2, 7);
        due.is("to the same place", x.shift(0, 1, 0, 1, 5), 5);
        rowIs(x, 0, 1, 2, 3, 4, 5, 6, 7);
        due.is("the whole row", x.shift(0, 0, 0, 0, 7), 7);
        due.is("too far", x.shift(0, 3, 0, 0, 5), -13);
        due.is("too far", x.shift(0, 0, 0, 3, 5), -13);
    }
}
