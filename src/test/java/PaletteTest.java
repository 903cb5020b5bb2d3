/** Promises 12 to 20: palettes. */
public final class PaletteTest {
    private static final int MIN = Integer.MIN_VALUE, MAX = Integer.MAX_VALUE;
    private static final Due due = new Due("PaletteTest");

    public static void main(String[] args) {
        entry();
        drop();
        change();
        lock();
        told();
        feed();
        readColours();
        readRamps();
        readFaults();
        readMany();
        cut();
        cutLocked();
        refine();
        refineSixteen();
        refineToColoursThatAreThere();
        due.close();
    }

    private static int red(int v) {
        return 4096 * v;
    }

    private static void coloursAre(DitherDesk x, int palette, int... colours) {
        for (int e = 0; e < colours.length; e++) {
            due.is("entry " + e, x.told(palette, e, 0), colours[e]);
        }
        due.is("no more entries", x.told(palette, colours.length, 0), -1);
    }

    private static void entry() {
        due.promise(12);
        DitherDesk x = new DitherDesk();
        for (int e = 0; e < 16; e++) {
            due.is("entry", x.entry(2, 262143 - e), e);
        }
        due.is("count", x.count(1), 16);
        due.is("FULL", x.entry(2, 0), -4);
        due.is("STATE ahead of FULL", x.entry(2, 262143), -3);
        due.is("BAD ahead of FULL", x.entry(2, -1), -2);
        due.is("not locked", x.told(2, 15, 1), 0);
        due.is("another palette", x.entry(0, 262143), 0);
        due.is("STATE", x.entry(0, 262143), -3);
        for (int c : new int[] {-1, 262144, MIN, MAX}) {
            due.is("colour " + c, x.entry(0, c), -2);
        }
        for (int p : new int[] {-1, 4, MIN, MAX}) {
            due.is("palette " + p, x.entry(p, 0), -1);
            due.is("NONE ahead of BAD", x.entry(p, -1), -1);
        }
        coloursAre(x, 0, 262143);
        x.drop(2, 3);
        due.is("room again", x.entry(2, 262140), 15);
    }

    private static void drop() {
        due.promise(13);
        DitherDesk x = new DitherDesk();
        Due.mix(x, 1, 10, 20, 30, 40);
        x.lock(1, 1, true);
        x.lock(1, 3, true);
        due.is("a middle one, locked", x.drop(1, 1), 3);
        coloursAre(x, 1, 10, 30, 40);
        due.is("the lock goes with it", x.told(1, 1, 1), 0);
        due.is("and comes with one", x.told(1, 2, 1), 1);
        due.is("the last", x.drop(1, 2), 2);
        coloursAre(x, 1, 10, 30);
        due.is("one that comes then isn't locked", x.entry(1, 50), 2);
        due.is("one that comes then isn't locked", x.told(1, 2, 1), 0);
        for (int e : new int[] {-1, 3, 16, MIN, MAX}) {
            due.is("entry " + e, x.drop(1, e), -1);
        }
        for (int p : new int[] {-1, 0, 4, MIN, MAX}) {
            due.is("palette " + p, x.drop(p, 0), -1);
        }
        x.drop(1, 0);
        x.drop(1, 0);
        due.is("the only one", x.drop(1, 0), 0);
        due.is("none", x.drop(1, 0), -1);
    }

    private static void change() {
        due.promise(14);
        DitherDesk x = new DitherDesk();
        Due.mix(x, 0, 10, 20, 30);
        due.is("change", x.change(0, 1, 25), 20);
        coloursAre(x, 0, 10, 25, 30);
        due.is("to its own", x.change(0, 1, 25), 25);
        due.is("to another one's", x.change(0, 1, 10), -3);
        due.is("to another one's", x.change(0, 1, 30), -3);
        x.lock(0, 2, true);
        due.is("locked", x.change(0, 2, 31), -3);
        due.is("locked, to its own", x.change(0, 2, 30), -3);
        for (int c : new int[] {-1, 262144, MIN, MAX}) {
            due.is("colour " + c, x.change(0, 0, c), -2);
            due.is("BAD ahead of STATE", x.change(0, 2, c), -2);
        }
        for (int e : new int[] {-1, 3, 16, MIN, MAX}) {
            due.is("entry " + e, x.change(0, e, 1), -1);
            due.is("NONE ahead of BAD", x.change(0, e, -1), -1);
        }
        for (int p : new int[] {-1, 1, 4, MIN, MAX}) {
            due.is("palette " + p, x.change(p, 0, 1), -1);
        }
        coloursAre(x, 0, 10, 25, 30);
        due.is("to the greatest", x.change(0, 0, 262143), 10);
        due.is("unlocked then", x.lock(0, 2, false), 1);
        due.is("unlocked then", x.change(0, 2, 10), 30);
    }

    private static void lock() {
        due.promise(15);
        DitherDesk x = new DitherDesk();
        Due.mix(x, 3, 10, 20);
        due.is("lock", x.lock(3, 1, true), 0);
        due.is("lock again", x.lock(3, 1, true), 1);
        due.is("told", x.told(3, 1, 1), 1);
        due.is("not the other", x.told(3, 0, 1), 0);
        due.is("unlock", x.lock(3, 1, false), 1);
        due.is("unlock again", x.lock(3, 1, false), 0);
        due.is("told", x.told(3, 1, 1), 0);
        for (int e : new int[] {-1, 2, 16, MIN, MAX}) {
            due.is("entry " + e, x.lock(3, e, true), -1);
        }
        for (int p : new int[] {-1, 0, 4, MIN, MAX}) {
            due.is("palette " + p, x.lock(p, 0, true), -1);
        }
    }

    private static void told() {
        due.promise(16);
        DitherDesk x = new DitherDesk();
        Due.mix(x, 0, Due.rgb(1, 2, 3), Due.rgb(63, 0, 62));
        x.lock(0, 1, true);
        int[][] answers = {{4096 + 128 + 3, 0, 1, 2, 3}, {63 * 4096 + 62, 1, 63, 0, 62}};
        for (int e = 0; e < 2; e++) {
            for (int what = 0; what < 5; what++) {
                due.is("told " + e + " " + what, x.told(0, e, what), answers[e][what]);
            }
        }
        for (int w : new int[] {-1, 5, MIN, MAX}) {
            due.is("what " + w, x.told(0, 0, w), -1);
        }
        for (int e : new int[] {-1, 2, 16, MIN, MAX}) {
            due.is("entry " + e, x.told(0, e, 0), -1);
        }
        for (int p : new int[] {-1, 1, 4, MIN, MAX}) {
            due.is("palette " + p, x.told(p, 0, 0), -1);
        }
    }

    private static void feed() {
        due.promise(17);
        DitherDesk x = new DitherDesk();
        for (int sign : new int[] {-1, 128, 255, MIN, MAX}) {
            due.is("sign " + sign, x.feed(sign), -2);
        }
        due.is("nothing came", x.count(5), 0);
        due.is("the least sign", x.feed(0), 1);
        due.is("the greatest sign", x.feed(127), 2);
        for (int i = 3; i <= 100; i++) {
            due.is("feed", x.feed('0'), i);
        }
        due.is("FULL", x.feed('0'), -4);
        due.is("BAD ahead of FULL", x.feed(128), -2);
        due.is("a hundred", x.count(5), 100);
        due.is("read empties it", x.read(0), -10);
        due.is("read empties it", x.feed('0'), 1);
        x.feed(';');
        due.is("in the order of the feeds", x.read(0), -11);
    }

    private static void readColours() {
        due.promise(18);
        DitherDesk x = new DitherDesk();
        due.is("one", Due.readAll(x, 0, "1,2,3"), 1);
        due.is("two, one locked", Due.readAll(x, 0, "63,00,07!;0,63,9"), 2);
        coloursAre(x, 0, Due.rgb(1, 2, 3), Due.rgb(63, 0, 7), Due.rgb(0, 63, 9));
        due.is("lock", x.told(0, 0, 1), 0);
        due.is("lock", x.told(0, 1, 1), 1);
        due.is("lock", x.told(0, 2, 1), 0);
        due.is("empty then", x.count(5), 0);
        due.is("there already", Due.readAll(x, 0, "1,2,3!;5,5,5;05,05,05"), 1);
        due.is("not locked by that", x.told(0, 0, 1), 0);
        due.is("still locked", Due.readAll(x, 0, "63,0,7"), 0);
        due.is("still locked", x.told(0, 1, 1), 1);
        Due.feedAll(x, "1,1,1");
        for (int p : new int[] {-1, 4, MIN, MAX}) {
            due.is("palette " + p, x.read(p), -1);
        }
        due.is("the text stays", x.count(5), 5);
        due.is("another palette", x.read(3), 1);
        coloursAre(x, 3, Due.rgb(1, 1, 1));
        due.is("the empty text", x.read(3), -10);
    }

    private static void readRamps() {
        DitherDesk x = new DitherDesk();
        due.is("a ramp", Due.readAll(x, 0, "0,63,10>63,0,11:4!;7,7,7"), 5);
        coloursAre(x, 0, Due.rgb(0, 63, 10), Due.rgb(21, 42, 10), Due.rgb(42, 21, 10), Due.rgb(63, 0, 11), Due.rgb(7, 7, 7));
        due.is("all locked", x.told(0, 0, 1) + x.told(0, 1, 1) + x.told(0, 2, 1) + x.told(0, 3, 1), 4);
        due.is("not the next", x.told(0, 4, 1), 0);
        due.is("of two", Due.readAll(x, 1, "1,1,1>9,9,9:2"), 2);
        coloursAre(x, 1, Due.rgb(1, 1, 1), Due.rgb(9, 9, 9));
        due.is("of eight, like ones once", Due.readAll(x, 2, "0,0,0>3,0,0:8"), 4);
        coloursAre(x, 2, red(0), red(1), red(2), red(3));
        due.is("downwards, cut", Due.readAll(x, 3, "10,0,0>0,0,1:8"), 8);
        coloursAre(x, 3, red(10), red(8), red(7), red(5), red(4), red(2), red(1), 1);
        due.is("to black", Due.readAll(x, 1, "8,0,0>0,0,0:2;"), -24);
        due.is("to black", Due.readAll(x, 1, "8,0,0>0,0,0:2"), 2);
        due.is("to black", x.told(1, 3, 0), 0);
        due.is("from a colour to itself", Due.readAll(x, 1, "5,5,5>5,5,5:7"), 1);
    }

    private static void readFaults() {
        Object[][] texts = {
            {"", 0}, {"1", 1}, {"1,", 2}, {"1,2", 3}, {"1,2,", 4}, {"1,2,3;", 6}, {"1,2,3>", 6}, {"1,2,3>4,5,6", 11},
            {"1,2,3>4,5,6:", 12}, {"x", 0}, {" 1,2,3", 0}, {"1, 2,3", 2}, {"1,2,3 ", 5}, {",", 0}, {"1,,3", 2}, {"64,0,0", 1},
            {"70,0,0", 1}, {"99", 1}, {"0,64,0", 3}, {"0,0,64", 5}, {"0,0,99", 5}, {"123", 2}, {"1,234", 4}, {"1,2,345", 6},
            {"001,2,3", 2}, {"1,2,643", 5}, {"1,2,3!!", 6}, {"1,2,3!>", 6}, {"1,2,3:4", 5}, {"1,2,3;;", 6}, {";", 0},
            {"1,2,3>4,5,6;", 11}, {"1,2,3>4,5,6!", 11}, {"1,2,3>4,5,6:1", 12}, {"1,2,3>4,5,6:0", 12}, {"1,2,3>4,5,6:9", 12},
            {"1,2,3>4,5,6:22", 13}, {"1,2,3>4,5,6:2>", 13}, {"1,2,3>64,5,6:2", 7}, {"1,2,3>>", 6}, {"1,2,3!,", 6},
            {"1,2,3,4", 5}, {"-1,2,3", 0}, {"1,2,3>4,5:2", 9}, {"1,2,3\u0000", 5}, {"1,2,3;x", 6}, {"63/", 2}, {"1:", 1}, {"1,2,3!1", 6}};
        DitherDesk x = null;
        for (int i = 0; i < texts.length; i++) {
            if (i % 16 == 0) {
                x = new DitherDesk();
                x.entry(0, 5);
            }
            String text = (String) texts[i][0];
            due.is("fault of '" + text + "'", Due.readAll(x, 0, text), -10 - (Integer) texts[i][1]);
            due.is("empty then", x.count(5), 0);
            coloursAre(x, 0, 5);
        }
        due.is("nothing comes of what stands ahead of the fault", Due.readAll(x, 0, "9,9,9;8,8,8;7,7"), -25);
        coloursAre(x, 0, 5);
    }

    private static void readMany() {
        DitherDesk x = new DitherDesk();
        StringBuilder twelve = new StringBuilder("0,0,0");
        for (int i = 1; i < 12; i++) {
            twelve.append(";0,0,").append(i);
        }
        int length = twelve.length();
        due.is("twelve clauses", Due.readAll(x, 0, twelve.toString()), 12);
        due.is("a thirteenth", Due.readAll(x, 1, twelve + ";1,1,1"), -10 - length);
        due.is("a twelfth ;", Due.readAll(x, 1, twelve + ";"), -10 - length);
        due.is("what comes behind the twelfth", Due.readAll(x, 1, twelve + "!x"), -11 - length);
        StringBuilder ramps = new StringBuilder();
        for (int i = 0; i < 6; i++) {
            ramps.append("9,9,9>9,9,9:8;");
        }
        due.is("like ones, then two more", Due.readAll(x, 2, ramps + "1,1,1>2,2,2:8!"), 3);
        coloursAre(x, 2, Due.rgb(9, 9, 9), Due.rgb(1, 1, 1), Due.rgb(2, 2, 2));
        due.is("locks", x.told(2, 0, 1), 0);
        due.is("locks", x.told(2, 1, 1), 1);
        due.is("locks", x.told(2, 2, 1), 1);
        x.drop(2, 0);
        x.drop(2, 0);
        x.drop(2, 0);
        due.is("no room", Due.readAll(x, 0, "1,0,0>8,0,0:8"), 4);
        due.is("sixteen", x.count(1), 16);
        due.is("the last", x.told(0, 15, 0), red(4));
        due.is("no room at all", Due.readAll(x, 0, "50,50,50"), 0);
        StringBuilder longest = new StringBuilder("0,0,0>63,63,63:8!");
        while (longest.length() < 95) {
            longest.append(";00,00,00");
        }
        longest.append(";0");
        due.is("a hundred bytes", longest.length(), 100);
        due.is("the end of a hundred bytes", Due.readAll(new DitherDesk(), 0, longest.toString()), -110);
    }

    private static void cut() {
        due.promise(19);
        DitherDesk x = new DitherDesk();
        Due.row(x, 1, red(63), red(0), red(20), red(10));
        Due.mix(x, 2, 1, 2, 3);
        due.is("to 2", x.cut(2, 1, 2), 2);
        coloursAre(x, 2, red(5), red(42));
        due.is("to 16", x.cut(2, 1, 16), 4);
        coloursAre(x, 2, red(0), red(10), red(20), red(63));
        due.is("not locked", x.told(2, 0, 1), 0);
        due.is("to 1", x.cut(2, 1, 1), 1);
        coloursAre(x, 2, red(23));
        due.is("work", x.count(6), 3);
        for (int p : new int[] {-1, 4, MIN, MAX}) {
            due.is("palette " + p, x.cut(p, 1, 1), -1);
        }
        for (int p : new int[] {-1, 0, 4, MIN, MAX}) {
            due.is("picture " + p, x.cut(2, p, 1), -1);
            due.is("NONE ahead of BAD", x.cut(2, p, 0), -1);
        }
        for (int n : new int[] {-1, 0, 17, MIN, MAX}) {
            due.is("n " + n, x.cut(2, 1, n), -2);
        }
        due.is("work still", x.count(6), 3);
        Due.spend(x, 5999);
        due.is("the last", x.cut(2, 1, 1), 1);
        due.is("6000", x.count(6), 6000);
        due.is("FULL", x.cut(2, 1, 4), -4);
        due.is("BAD ahead of FULL", x.cut(2, 1, 0), -2);
        coloursAre(x, 2, red(23));
    }

    private static void cutLocked() {
        DitherDesk x = new DitherDesk();
        Due.row(x, 0, red(63), red(0), red(20), red(10));
        Due.mix(x, 0, red(1), red(42), red(2), red(3));
        x.lock(0, 1, true);
        x.lock(0, 3, true);
        due.is("two locked, one of them a mean", x.cut(0, 0, 4), 3);
        coloursAre(x, 0, red(42), red(3), red(5));
        due.is("locks", x.told(0, 0, 1), 1);
        due.is("locks", x.told(0, 1, 1), 1);
        due.is("locks", x.told(0, 2, 1), 0);
        due.is("work, where nothing is cut, too", x.count(6), 1);
        due.is("as many locked as n", x.cut(0, 0, 2), 2);
        coloursAre(x, 0, red(42), red(3));
        due.is("more locked than n", x.cut(0, 0, 1), 2);
        coloursAre(x, 0, red(42), red(3));
        due.is("work, where nothing is cut, too", x.count(6), 3);
        due.is("one box", x.cut(0, 0, 3), 3);
        coloursAre(x, 0, red(42), red(3), red(23));
        Due.row(x, 0, 0, 1, 1, 1, 4, 4);
        Due.mix(x, 1);
        due.is("like means once", x.cut(1, 0, 2), 2);
        coloursAre(x, 1, 1, 4);
        int a = Due.rgb(0, 1, 1), b = Due.rgb(0, 2, 0), c = Due.rgb(1, 0, 0), d = Due.rgb(1, 1, 0);
        Due.row(x, 0, a, b, c, d);
        // red, green, blue span 1, 2, 1: by green c, a | d, b: means (0.5, 0.5, 0.5) and (0.5, 1.5, 0)
        due.is("means of halves", x.cut(1, 0, 2), 2);
        coloursAre(x, 1, Due.rgb(1, 1, 1), Due.rgb(1, 2, 0));
    }

    private static void refine() {
        due.promise(20);
        DitherDesk x = new DitherDesk();
        Due.row(x, 2, red(0), red(2), red(10), red(13));
        Due.mix(x, 1, red(0), red(12), red(60));
        due.is("one pass changes", x.refine(1, 2, 20), 1);
        coloursAre(x, 1, red(1), red(12), red(60)); // 1, 11.5 (halves up), no pixels
        due.is("work is n", x.count(6), 20);
        due.is("none changes", x.refine(1, 2, 3), 0);
        due.is("work is n", x.count(6), 23);
        Due.mix(x, 1, red(0), red(3));
        x.lock(1, 1, true);
        // 0 | 2, 10, 13 stays, for the second one is locked
        due.is("locked", x.refine(1, 2, 1), 0);
        x.lock(1, 1, false);
        due.is("as many as told", x.refine(1, 2, 1), 1);
        coloursAre(x, 1, red(0), red(8)); // 25 of 3
        due.is("two more", x.refine(1, 2, 20), 1);
        coloursAre(x, 1, red(1), red(12));
        x.rule(0, 1);
        Due.row(x, 2, Due.rgb(0, 0, 0), Due.rgb(0, 3, 0), Due.rgb(4, 0, 0));
        Due.mix(x, 1, 0, Due.rgb(4, 3, 0));
        // WEIGHTED: (0, 3, 0) is 36 from the first and 32 from the second, (4, 0, 0) 32 and 36
        due.is("by the metric", x.refine(1, 2, 1), 1);
        coloursAre(x, 1, Due.rgb(2, 0, 0), Due.rgb(0, 3, 0));
        Due.mix(x, 0);
        due.is("no entries", x.refine(0, 2, 1), -3);
        for (int p : new int[] {-1, 4, MIN, MAX}) {
            due.is("palette " + p, x.refine(p, 2, 1), -1);
        }
        for (int p : new int[] {-1, 0, 4, MIN, MAX}) {
            due.is("picture " + p, x.refine(1, p, 1), -1);
            due.is("NONE ahead of BAD", x.refine(1, p, 0), -1);
        }
        for (int n : new int[] {-1, 0, 21, MIN, MAX}) {
            due.is("n " + n, x.refine(1, 2, n), -2);
            due.is("BAD ahead of STATE", x.refine(0, 2, n), -2);
        }
        Due.spend(x, 5990);
        due.is("STATE ahead of FULL", x.refine(0, 2, 20), -3);
        due.is("FULL", x.refine(1, 2, 11), -4);
        due.is("not counted", x.count(6), 5990);
        due.is("just in", x.refine(1, 2, 10), 0);
        due.is("6000", x.count(6), 6000);
        due.is("FULL", x.refine(1, 2, 1), -4);
    }

    private static void refineSixteen() {
        DitherDesk x = new DitherDesk();
        x.picture(0, 8, 4);
        for (int e = 0; e < 16; e++) {
            x.entry(0, Due.rgb(4 * e, 2 * e, 60 - 4 * e));
            x.paint(0, e % 8, e / 8, Due.rgb(4 * e, 2 * e + 1, 60 - 4 * e));
            x.paint(0, e % 8, 2 + e / 8, Due.rgb(4 * e + 1, 2 * e + 1, 61 - 4 * e));
        }
        due.is("sixteen entries", x.refine(0, 0, 20), 1);
        for (int e = 0; e < 16; e++) {
            due.is("entry " + e, x.told(0, e, 0), Due.rgb(4 * e + 1, 2 * e + 1, 61 - 4 * e));
        }
    }

    private static void refineToColoursThatAreThere() {
        DitherDesk x = new DitherDesk();
        Due.row(x, 0, Due.rgb(10, 11, 0), Due.rgb(11, 10, 0));
        Due.mix(x, 0, Due.rgb(10, 10, 0), Due.rgb(11, 11, 0));
        due.is("another one has the mean", x.refine(0, 0, 5), 0);
        coloursAre(x, 0, Due.rgb(10, 10, 0), Due.rgb(11, 11, 0));
        x.rule(0, 3);
        int a = Due.rgb(0, 0, 0), b = Due.rgb(1, 1, 1), far = Due.rgb(9, 9, 9);
        Due.row(x, 0, Due.rgb(3, 0, 0), Due.rgb(0, 3, 0), Due.rgb(0, 0, 3), far);
        Due.mix(x, 0, b, a);
        due.is("the one ahead has gone from there", x.refine(0, 0, 1), 1);
        coloursAre(x, 0, far, b);
        Due.mix(x, 0, a, b);
        due.is("the one behind has not", x.refine(0, 0, 1), 1);
        coloursAre(x, 0, a, far);
        due.is("then it has", x.refine(0, 0, 20), 1);
        coloursAre(x, 0, b, far);
        x.rule(0, 0);
        Due.row(x, 0, red(0), red(4), red(5), red(9));
        Due.mix(x, 0, red(2), red(8));
        // the means are told first: red 4.5 of 0, 4, 5 ... by the entries as they were
        due.is("all at once", x.refine(0, 0, 1), 1);
        coloursAre(x, 0, red(3), red(9));
    }
}
