/** Promises 30 to 38: what would be. */
public final class WouldBeTest {
    private static final int MIN = Integer.MIN_VALUE, MAX = Integer.MAX_VALUE;
    private static final long NO = Long.MIN_VALUE;
    private static final Due due = new Due("WouldBeTest");

    public static void main(String[] args) {
        best();
        bestAnswers();
        see();
        fits();
        fitsAnswers();
        odds();
        spared();
        sparedAnswers();
        plan();
        ends();
        endsByRows();
        endsRefined();
        book();
        looked();
        due.close();
    }

    private static int red(int v) {
        return 4096 * v;
    }

    private static void best() {
        due.promise(30);
        DitherDesk x = new DitherDesk();
        Due.row(x, 1, red(20), red(20));
        Due.mix(x, 2, 0, red(32));
        // plain 32 32: shift 24; by screen 14 and 22: 0 32: shift -8
        due.is("without a kernel", x.best(1, 2, 0), 3);
        due.is("its blocks", x.best(1, 2, 1), 64);
        x.rule(1, 1);
        due.is("of like ones the least", x.best(1, 2, 0), 1);
        due.is("its blocks", x.best(1, 2, 1), 64);
        due.is("work", x.count(6), 20);
        due.is("no sheet is made", x.sum(0), NO);
        x.rule(3, 0);
        x.rule(1, 0);
        due.is("all alike", x.best(1, 2, 0), 0);
        due.is("all alike", x.best(1, 2, 1), 576);
        x.make(1, 2, 2);
        x.best(1, 2, 0);
        due.is("the sheet is as it was", x.sum(13), 2);
        DitherDesk y = new DitherDesk();
        y.rule(2, 0);
        y.rule(3, 16);
        Due.row(y, 0, 20, 20);
        Due.mix(y, 0, 0, 32);
        // by blue TURNED has 3 and 1: 26 goes to 32, 18 to 32; SCREEN 14 to 0, 22 to 32
        due.is("screen", y.best(0, 0, 0), 3);
        Due.row(y, 0, 13, 13);
        // plain 0 0: -26; screen 7 and 15: 0 0; turned 19 and 11: 32 0: 6
        due.is("turned", y.best(0, 0, 0), 4);
        due.is("its blocks", y.best(0, 0, 1), 36);
        y.picture(0, 3, 2);
        y.paint(0, 2, 0, 17);
        y.paint(0, 0, 1, 7);
        y.rule(1, 1);
        Model model = new Model();
        model.picture(0, 3, 2);
        model.paint(0, 2, 0, 17);
        model.paint(0, 0, 1, 7);
        model.entry(0, 0);
        model.entry(0, 32);
        model.rule(1, 1);
        due.is("as the model", y.best(0, 0, 0), model.best(0, 0, 0));
        due.is("as the model", y.best(0, 0, 1), model.best(0, 0, 1));
    }

    private static void bestAnswers() {
        DitherDesk x = new DitherDesk();
        x.picture(1, 2, 2);
        x.entry(2, 9);
        for (int p : new int[] {-1, 0, 4, MIN, MAX}) {
            due.is("picture " + p, x.best(p, 2, 0), -1);
        }
        for (int p : new int[] {-1, 4, MIN, MAX}) {
            due.is("palette " + p, x.best(1, p, 0), -1);
        }
        for (int w : new int[] {-1, 2, MIN, MAX}) {
            due.is("what " + w, x.best(1, 2, w), -1);
            due.is("NONE ahead of STATE", x.best(1, 0, w), -1);
        }
        due.is("no entries", x.best(1, 0, 0), -3);
        due.is("nothing is counted", x.count(6), 0);
        Due.spend(x, 5995);
        due.is("the last", x.best(1, 2, 0), 0);
        due.is("6000", x.count(6), 6000);
        due.is("FULL", x.best(1, 2, 0), -4);
        due.is("STATE ahead of FULL", x.best(1, 0, 0), -3);
        DitherDesk y = new DitherDesk();
        Due.spend(y, 5996);
        due.is("FULL", y.best(3, 3, 0), -4);
        due.is("not counted", y.count(6), 5996);
    }

    private static void see() {
        due.promise(31);
        DitherDesk x = new DitherDesk();
        due.is("none then", x.see(-1, 99, -99), 0);
        int[][] rows = {{0, 0, 0}, {11, 11, 15}, {0, 0, 0}, {3, 4, 5}, {11, 0, 0}, {0, 11, 15}};
        for (int i = 0; i < 6; i++) {
            due.is("see", x.see(rows[i][0], rows[i][1], rows[i][2]), i + 1);
        }
        due.is("FULL", x.see(0, 0, 0), -4);
        int[][] wrong = {{-2, 0, 0}, {12, 0, 0}, {0, -1, 0}, {0, 12, 0}, {0, 0, -1}, {0, 0, 16},
            {MIN, 0, 0}, {MAX, 0, 0}, {0, MIN, 0}, {0, MAX, 0}, {0, 0, MIN}, {0, 0, MAX}};
        for (int[] w : wrong) {
            due.is("BAD ahead of FULL " + w[0] + " " + w[1] + " " + w[2], x.see(w[0], w[1], w[2]), -2);
        }
        due.is("six", x.count(2), 6);
        due.is("none then", x.see(-1, MIN, MAX), 0);
        due.is("none", x.count(2), 0);
        for (int[] w : wrong) {
            due.is("see " + w[0] + " " + w[1] + " " + w[2], x.see(w[0], w[1], w[2]), -2);
        }
        due.is("from the first again", x.see(1, 2, 3), 1);
    }

    private static void fits() {
        due.promise(32);
        DitherDesk x = new DitherDesk();
        x.picture(0, 2, 2);
        x.shade(0, red(7), red(7));
        for (int v = 0; v < 16; v++) {
            x.entry(0, red(v));
        }
        due.is("nothing is seen: all", x.fits(0, 0, 0), 64);
        due.is("nothing is seen: the least", x.fits(0, 0, 1), 0);
        x.see(0, 0, 1);
        // 7.5 - 0.375 * strength is cut to 1
        due.is("15, 16, 17", x.fits(0, 0, 0), 3);
        due.is("the least", x.fits(0, 0, 1), 15);
        x.see(1, 0, 9);
        due.is("9.375 .. 9.625", x.fits(0, 0, 0), 3);
        x.see(0, 1, 13);
        // 7.5 + 0.375 * strength: 13.125, 13.5, 13.875
        due.is("all three", x.fits(0, 0, 0), 3);
        x.see(1, 1, 5);
        // 7.5 - 0.125 * strength: 5.625, 5.5, 5.375
        due.is("all four", x.fits(0, 0, 0), 3);
        x.see(0, 0, 1);
        due.is("one twice", x.fits(0, 0, 0), 3);
        x.see(1, 1, 6);
        due.is("not two entries", x.fits(0, 0, 0), 0);
        due.is("not two entries", x.fits(0, 0, 1), -5);
        x.see(-1, 0, 0);
        x.see(0, 0, 0);
        // 7.5 - 0.375 * strength is below 1: 18 .. 63
        due.is("held at 0", x.fits(0, 0, 0), 46);
        due.is("held at 0", x.fits(0, 0, 1), 18);
        x.see(-1, 0, 0);
        x.see(0, 1, 15);
        // 7.5 + 0.375 * strength is 15 or more: 20 .. 63
        due.is("up to 63", x.fits(0, 0, 0), 44);
        due.is("strength stays", x.rule(3, 16), 16);
        due.is("no sheet is made", x.sum(0), NO);
        x.see(-1, 0, 0);
        x.see(0, 0, 7);
        due.is("the least strength", x.fits(0, 0, 1), 0);
        for (int[] off : new int[][] {{2, 0, 7}, {2, 1, 0}, {0, 2, 0}, {0, 2, 7}, {1, 2, 0}, {11, 11, 0}}) {
            x.see(-1, 0, 0);
            x.see(off[0], off[1], off[2]);
            due.is("a pixel that isn't there", x.fits(0, 0, 0), 0);
            due.is("a pixel that isn't there", x.fits(0, 0, 1), -5);
        }
        DitherDesk y = new DitherDesk();
        y.picture(0, 5, 5);
        y.shade(0, red(7), red(7));
        for (int v = 0; v < 16; v++) {
            y.entry(0, red(v));
        }
        y.rule(2, 2);
        y.see(4, 4, 3);
        // number 0 of 9: 7.5 - strength * 4 / 9 is cut to 3: 8, 9, 10 (3.944, 3.5, 3.056)
        due.is("by the screen", y.fits(0, 0, 0), 3);
        due.is("by the screen", y.fits(0, 0, 1), 8);
    }

    private static void fitsAnswers() {
        DitherDesk x = new DitherDesk();
        x.picture(1, 2, 2);
        x.entry(2, 9);
        for (int p : new int[] {-1, 0, 4, MIN, MAX}) {
            due.is("picture " + p, x.fits(p, 2, 0), -1);
        }
        for (int p : new int[] {-1, 4, MIN, MAX}) {
            due.is("palette " + p, x.fits(1, p, 0), -1);
        }
        for (int w : new int[] {-1, 2, MIN, MAX}) {
            due.is("what " + w, x.fits(1, 2, w), -1);
            due.is("NONE ahead of STATE", x.fits(1, 0, w), -1);
        }
        due.is("no entries", x.fits(1, 0, 0), -3);
        due.is("nothing is counted", x.count(6), 0);
        x.see(9, 9, 9);
        due.is("none fits", x.fits(1, 2, 1), -5);
        due.is("counted all the same", x.count(6), 64);
        Due.spend(x, 5937);
        due.is("FULL ahead of -5", x.fits(1, 2, 1), -4);
        due.is("STATE ahead of FULL", x.fits(1, 0, 1), -3);
        due.is("not counted", x.count(6), 5937);
        DitherDesk y = new DitherDesk();
        Due.spend(y, 5936);
        due.is("the last", y.fits(3, 3, 0), 64);
        due.is("6000", y.count(6), 6000);
    }

    private static void odds() {
        due.promise(33);
        DitherDesk x = new DitherDesk();
        Due.mix(x, 1, 77);
        due.is("all", x.odds(1, 0, 0), 1);
        due.is("all", x.odds(1, 0, 1), 1);
        Due.mix(x, 1, 0, 262143);
        due.is("half", x.odds(1, 0, 0), 1);
        due.is("half", x.odds(1, 1, 1), 2);
        Due.mix(x, 1, 0, 1, 262143);
        x.rule(0, 2);
        // 0 or 1, by the greatest: 1 is nearer only where blue is the greatest alone
        due.is("greatest", x.odds(1, 2, 0) * 512 / x.odds(1, 2, 1) + x.odds(1, 0, 0) * 512 / x.odds(1, 0, 1)
            + x.odds(1, 1, 0) * 512 / x.odds(1, 1, 1), 512);
        x.rule(0, 0);
        Due.mix(x, 1, 0, 1);
        due.is("blue 0: above", x.odds(1, 0, 0), 1);
        due.is("blue 0: below", x.odds(1, 0, 1), 8);
        due.is("all others: above", x.odds(1, 1, 0), 7);
        due.is("all others: below", x.odds(1, 1, 1), 8);
        Due.mix(x, 1, 0, 1, 2);
        due.is("between: above", x.odds(1, 1, 0), 0);
        due.is("between: below", x.odds(1, 1, 1), 1);
        Due.mix(x, 1, red(9), red(27));
        due.is("of like ones the least: 0, 9, 18 of red", x.odds(1, 0, 0), 3);
        due.is("of like ones the least: 0, 9, 18 of red", x.odds(1, 0, 1), 8);
        Due.mix(x, 1, Due.rgb(60, 60, 60), 0, Due.rgb(0, 0, 5));
        x.rule(0, 1);
        Model model = new Model();
        model.rule(0, 1);
        model.entry(1, Due.rgb(60, 60, 60));
        model.entry(1, 0);
        model.entry(1, 5);
        for (int e = 0; e < 3; e++) {
            due.is("as the model", x.odds(1, e, 0), model.odds(1, e, 0));
            due.is("as the model", x.odds(1, e, 1), model.odds(1, e, 1));
        }
        for (int p : new int[] {-1, 0, 4, MIN, MAX}) {
            due.is("palette " + p, x.odds(p, 0, 0), NO);
        }
        for (int e : new int[] {-1, 3, 16, MIN, MAX}) {
            due.is("entry " + e, x.odds(1, e, 0), NO);
        }
        for (int part : new int[] {-1, 2, MIN, MAX}) {
            due.is("part " + part, x.odds(1, 0, part), NO);
        }
        due.is("no work", x.count(6), 0);
    }

    private static void spared() {
        due.promise(34);
        DitherDesk x = new DitherDesk();
        Due.row(x, 0, 0, red(10), red(60));
        Due.mix(x, 0, red(60), red(10), 0);
        due.is("of like ones the least", x.spared(0, 0, 0), 1);
        due.is("its error", x.spared(0, 0, 1), 100);
        x.lock(0, 1, true);
        due.is("not the locked one", x.spared(0, 0, 0), 2);
        due.is("its error", x.spared(0, 0, 1), 100);
        x.lock(0, 2, true);
        due.is("only one is not locked", x.spared(0, 0, 0), 0);
        due.is("its error", x.spared(0, 0, 1), 2500);
        x.lock(0, 0, true);
        due.is("all locked", x.spared(0, 0, 0), -5);
        due.is("all locked", x.spared(0, 0, 1), -5);
        due.is("work all the same", x.count(6), 8 * 17);
        due.is("the palette stays", x.count(1), 3);
        due.is("no sheet is made", x.sum(0), NO);
        Due.mix(x, 1, 5);
        due.is("one entry", x.spared(0, 1, 0), -5);
        due.is("one entry", x.spared(0, 1, 1), -5);
        due.is("no entries", x.spared(0, 2, 0), -5);
        due.is("no entries", x.spared(0, 2, 1), -5);
        due.is("work all the same", x.count(6), 12 * 17);
        Due.row(x, 0, Due.rgb(1, 2, 3), Due.rgb(0, 0, 0));
        Due.mix(x, 1, Due.rgb(0, 0, 0), Due.rgb(50, 50, 50));
        due.is("on all channels", x.spared(0, 1, 0), 1);
        due.is("on all channels", x.spared(0, 1, 1), 14);
        x.rule(0, 2);
        Due.row(x, 0, 0);
        Due.mix(x, 1, 0, Due.rgb(6, 6, 6), Due.rgb(7, 0, 0));
        // without 0 the nearest is (6, 6, 6) by the greatest: squares 108; without another 0
        x.lock(1, 1, true);
        x.lock(1, 2, true);
        due.is("by the metric, errors by squares", x.spared(0, 1, 1), 108);
        due.is("by the metric", x.spared(0, 1, 0), 0);
    }

    private static void sparedAnswers() {
        DitherDesk x = new DitherDesk();
        x.picture(1, 2, 2);
        x.entry(2, 9);
        x.entry(2, 10);
        for (int p : new int[] {-1, 0, 4, MIN, MAX}) {
            due.is("picture " + p, x.spared(p, 2, 0), -1);
        }
        for (int p : new int[] {-1, 4, MIN, MAX}) {
            due.is("palette " + p, x.spared(1, p, 0), -1);
        }
        for (int w : new int[] {-1, 2, MIN, MAX}) {
            due.is("what " + w, x.spared(1, 2, w), -1);
            due.is("NONE ahead of -5", x.spared(1, 0, w), -1);
        }
        due.is("nothing is counted", x.count(6), 0);
        Due.spend(x, 5983);
        due.is("the last", x.spared(1, 2, 0), 1);
        due.is("6000", x.count(6), 6000);
        due.is("FULL", x.spared(1, 2, 0), -4);
        due.is("FULL ahead of -5", x.spared(1, 0, 0), -4);
        DitherDesk y = new DitherDesk();
        Due.spend(y, 5984);
        due.is("FULL", y.spared(3, 3, 0), -4);
    }

    private static void plan() {
        due.promise(35);
        DitherDesk x = new DitherDesk();
        due.is("empty then", x.plan(-1, 99), 0);
        int[] top = {3, 3, 4, 15};
        for (int what = 0; what < 4; what++) {
            due.is("least n of " + what, x.plan(what, 0), 1);
            due.is("greatest n of " + what, x.plan(what, top[what]), 2);
            for (int n : new int[] {-1, top[what] + 1, MIN, MAX}) {
                due.is("n " + n + " of " + what, x.plan(what, n), what == 0 ? -1 : -2);
            }
            due.is("two", x.count(3), 2);
            due.is("empty then", x.plan(-1, MIN), 0);
        }
        for (int what : new int[] {-2, 4, MIN, MAX}) {
            due.is("what " + what, x.plan(what, 0), -1);
            due.is("NONE ahead of BAD", x.plan(what, -1), -1);
        }
        for (int i = 1; i <= 8; i++) {
            due.is("plan", x.plan(1, 0), i);
        }
        due.is("FULL", x.plan(1, 0), -4);
        due.is("BAD ahead of FULL", x.plan(1, 4), -2);
        due.is("NONE ahead of FULL", x.plan(4, 0), -1);
        due.is("NONE ahead of FULL", x.plan(0, 4), -1);
        due.is("eight", x.count(3), 8);
        due.is("empty then", x.plan(-1, MAX), 0);
        due.is("empty", x.count(3), 0);
    }

    private static void ends() {
        due.promise(36);
        DitherDesk x = new DitherDesk();
        due.is("no picture", x.ends(0), -5);
        due.is("no picture", x.ends(1), -5);
        due.is("work all the same", x.count(6), 2);
        for (int w : new int[] {-1, 2, MIN, MAX}) {
            due.is("what " + w, x.ends(w), -1);
        }
        x.entry(0, 0);
        due.is("no picture", x.ends(0), -5);
        x.drop(0, 0);
        Due.row(x, 0, red(20), red(20));
        due.is("no entries", x.ends(0), -5);
        Due.mix(x, 0, 0, red(32));
        due.is("without a plan: error", x.ends(0), 288);
        due.is("without a plan: blocks", x.ends(1), 576);
        x.rule(1, 1);
        due.is("by spread: error", x.ends(0), 144 + 400);
        due.is("by spread: blocks", x.ends(1), 64);
        due.is("no sheet is made", x.sum(0), NO);
        due.is("work", x.count(6), 8);
        Due.spend(x, 5999);
        due.is("the last", x.ends(1), 64);
        due.is("FULL", x.ends(1), -4);
        x.picture(0, 0, 0);
        due.is("FULL ahead of -5", x.ends(1), -4);
        due.is("NONE ahead of FULL", x.ends(2), -1);
        due.is("6000", x.count(6), 6000);
    }

    private static void endsByRows() {
        DitherDesk x = new DitherDesk();
        Due.row(x, 0, red(20), red(20));
        Due.mix(x, 0, 0, red(32));
        x.plan(2, 1);
        due.is("the kernel", x.ends(1), 64);
        due.is("the kernel stays", x.rule(1, 0), 0);
        x.plan(2, 0);
        due.is("the last row goes", x.ends(1), 576);
        x.plan(-1, 0);
        x.plan(3, 1);
        due.is("without an entry", x.ends(0), 800);
        due.is("it is there still", x.count(1), 2);
        x.plan(3, 1);
        due.is("no such entry", x.ends(0), 800);
        x.plan(3, 0);
        due.is("no entries then", x.ends(0), -5);
        x.lock(0, 0, true);
        due.is("locked", x.ends(0), 800);
        x.plan(-1, 0);
        x.plan(3, 0);
        x.plan(3, 0);
        due.is("locked", x.ends(0), 288);
        x.lock(0, 0, false);
        due.is("those behind are one less", x.ends(0), -5);
        x.plan(-1, 0);
        x.plan(1, 2);
        Due.row(x, 0, 0);
        Due.mix(x, 0, red(7), Due.rgb(6, 6, 6));
        due.is("the metric", x.ends(0), 108);
        due.is("the metric stays", x.rule(0, 0), 0);
        x.plan(-1, 0);
        due.is("the metric without it", x.ends(0), 49);
    }

    private static void endsRefined() {
        DitherDesk x = new DitherDesk();
        Due.row(x, 0, red(0), red(2), red(10), red(13));
        Due.mix(x, 0, 0, red(12));
        Due.mix(x, 1, 0, red(12));
        x.plan(0, 1);
        due.is("another palette", x.ends(0), 4 + 4 + 1);
        x.plan(0, 0);
        due.is("refined", x.ends(0), 1 + 1 + 4 + 1);
        due.is("the palette stays", x.told(0, 0, 0), 0);
        due.is("no work but its own", x.count(6), 2);
        x.plan(0, 3);
        due.is("a palette without entries", x.ends(0), 7);
        x.plan(-1, 0);
        Due.mix(x, 0, red(0), red(3));
        x.plan(0, 0);
        due.is("once: 0 and 8", x.ends(0), 4 + 4 + 25);
        x.plan(0, 0);
        due.is("twice: 1 and 12", x.ends(0), 7);
        x.plan(0, 0);
        due.is("no more", x.ends(0), 7);
        x.lock(0, 1, true);
        due.is("locked", x.ends(0), 1 + 49 + 100);
        x.lock(0, 1, false);
        x.plan(-1, 0);
        Due.row(x, 0, Due.rgb(0, 0, 0), Due.rgb(0, 3, 0), Due.rgb(4, 0, 0));
        Due.mix(x, 0, 0, Due.rgb(4, 3, 0));
        x.plan(1, 1);
        x.plan(0, 0);
        // by WEIGHTED (2, 0, 0) and (0, 3, 0)
        due.is("by the metric of the rows ahead", x.ends(0), 4 + 4);
        x.plan(-1, 0);
        x.plan(0, 0);
        x.plan(1, 1);
        // by SQUARES (0, 2, 0) and (4, 0, 0)
        due.is("not of those behind", x.ends(0), 4 + 1);
        x.picture(0, 0, 0);
        due.is("nothing goes without picture 0", x.ends(0), -5);
    }

    private static void book() {
        due.promise(37);
        DitherDesk x = new DitherDesk();
        due.is("empty then", x.book(-1, 99), 0);
        for (int p : new int[] {-2, 4, MIN, MAX}) {
            due.is("palette " + p, x.book(p, 0), -1);
            due.is("NONE ahead of BAD", x.book(p, -1), -1);
        }
        for (int n : new int[] {-1, 17, MIN, MAX}) {
            due.is("many " + n, x.book(0, n), -2);
        }
        due.is("none came", x.count(4), 0);
        for (int i = 1; i <= 8; i++) {
            due.is("book", x.book(i % 4, i == 1 ? 0 : 16), i);
        }
        due.is("FULL", x.book(0, 0), -4);
        due.is("BAD ahead of FULL", x.book(0, 17), -2);
        due.is("NONE ahead of FULL", x.book(4, 0), -1);
        due.is("eight", x.count(4), 8);
        due.is("empty then", x.book(-1, MIN), 0);
        due.is("empty", x.count(4), 0);
    }

    private static void looked() {
        due.promise(38);
        DitherDesk x = new DitherDesk();
        due.is("no rows", x.looked(), -5);
        Due.mix(x, 1, 10, 20);
        x.book(0, 0);
        x.book(1, 2);
        due.is("all so", x.looked(), -5);
        x.book(1, 3);
        x.book(2, 1);
        due.is("the first that is otherwise", x.looked(), 2);
        x.entry(1, 30);
        due.is("now", x.looked(), 1);
        x.entry(0, 1);
        due.is("now", x.looked(), 0);
        x.book(-1, 0);
        for (int e = 0; e < 13; e++) {
            x.entry(1, 100 + e);
        }
        x.book(1, 16);
        due.is("sixteen", x.looked(), -5);
        x.book(3, 0);
        x.book(1, 15);
        due.is("fifteen", x.looked(), 2);
    }
}
