/** Promises 21 to 24: rules, how far, and the nearest. */
public final class NearTest {
    private static final int MIN = Integer.MIN_VALUE, MAX = Integer.MAX_VALUE;
    private static final Due due = new Due("NearTest");

    public static void main(String[] args) {
        rule();
        far();
        nearest();
        near();
        due.close();
    }

    private static int red(int v) {
        return 4096 * v;
    }

    private static void rule() {
        due.promise(21);
        DitherDesk x = new DitherDesk();
        int[] first = {0, 0, 0, 16};
        int[] top = {3, 4, 2, 63};
        for (int what = 0; what < 4; what++) {
            due.is("at first " + what, x.rule(what, top[what]), first[what]);
        }
        for (int what = 0; what < 4; what++) {
            due.is("then " + what, x.rule(what, 1), top[what]);
            due.is("to 0 " + what, x.rule(what, 0), 1);
            for (int v : new int[] {-1, top[what] + 1, MIN, MAX}) {
                due.is("rule " + what + " " + v, x.rule(what, v), -2);
            }
            due.is("as it was " + what, x.rule(what, 0), 0);
        }
        for (int what : new int[] {-1, 4, MIN, MAX}) {
            due.is("what " + what, x.rule(what, 0), -1);
            due.is("NONE ahead of BAD", x.rule(what, -1), -1);
        }
    }

    private static void far() {
        due.promise(22);
        DitherDesk x = new DitherDesk();
        int a = Due.rgb(1, 2, 3), b = Due.rgb(5, 4, 10);
        int[] fars = {69, 195, 7, 13}; // 4, 2 and 7 on the channels
        int[] most = {11907, 35721, 63, 189};
        for (int metric = 0; metric < 4; metric++) {
            x.rule(0, metric);
            due.is("metric " + metric, x.far(a, b), fars[metric]);
            due.is("to and fro", x.far(b, a), fars[metric]);
            due.is("from itself", x.far(b, b), 0);
            due.is("the most", x.far(0, 262143), most[metric]);
            for (int c : new int[] {-1, 262144, MIN, MAX}) {
                due.is("colour " + c, x.far(c, 0), -2);
                due.is("other " + c, x.far(0, c), -2);
            }
        }
        x.rule(0, 2);
        due.is("greatest, red", x.far(red(9), Due.rgb(0, 3, 2)), 9);
        due.is("greatest, green", x.far(red(1), Due.rgb(0, 3, 2)), 3);
    }

    private static void nearest() {
        due.promise(23);
        DitherDesk x = new DitherDesk();
        due.is("no entries", x.nearest(2, 0), -5);
        for (int p : new int[] {-1, 4, MIN, MAX}) {
            due.is("palette " + p, x.nearest(p, 0), -1);
            due.is("NONE ahead of BAD", x.nearest(p, -1), -1);
        }
        for (int c : new int[] {-1, 262144, MIN, MAX}) {
            due.is("colour " + c, x.nearest(2, c), -2);
        }
        Due.mix(x, 2, Due.rgb(10, 0, 0), Due.rgb(0, 8, 0), Due.rgb(0, 6, 6), Due.rgb(5, 5, 0));
        // from 0: squares 100 64 72 50, weighted 200 256 252 150, greatest 10 8 6 5, streets 10 8 12 10
        // from (8, 1, 0): squares 5 113 125 25, weighted 12 324 336 82, greatest 2 8 8 4, streets 3 15 19 7
        int[][] answers = {{3, 3, 3, 1}, {0, 0, 0, 0}};
        for (int metric = 0; metric < 4; metric++) {
            x.rule(0, metric);
            due.is("from 0, metric " + metric, x.nearest(2, 0), answers[0][metric]);
            due.is("from (8, 1, 0), metric " + metric, x.nearest(2, Due.rgb(8, 1, 0)), answers[1][metric]);
            for (int c : new int[] {-1, 262144, MIN, MAX}) {
                due.is("colour " + c, x.nearest(2, c), -2);
            }
        }
        x.rule(0, 0);
        Due.mix(x, 0, red(20), red(10), red(12));
        due.is("of like ones the least", x.nearest(0, red(15)), 2);
        due.is("of like ones the least", x.nearest(0, red(16)), 0);
        due.is("of like ones the least", x.nearest(0, red(11)), 1);
        x.lock(0, 0, true);
        due.is("locked or not", x.nearest(0, red(63)), 0);
    }

    private static void near() {
        due.promise(24);
        DitherDesk x = new DitherDesk();
        Due.mix(x, 1, red(20), red(10), red(12), red(18), red(15));
        int[] order = {4, 2, 3, 0, 1};
        for (int k = 0; k < 5; k++) {
            due.is("near " + k, x.near(1, red(15), k), order[k]);
        }
        for (int k : new int[] {-1, 5, 16, MIN, MAX}) {
            due.is("near " + k, x.near(1, red(15), k), -2);
        }
        for (int c : new int[] {-1, 262144, MIN, MAX}) {
            due.is("colour " + c, x.near(1, c, 0), -2);
        }
        for (int p : new int[] {-1, 4, MIN, MAX}) {
            due.is("palette " + p, x.near(p, 0, 0), -1);
            due.is("NONE ahead of BAD", x.near(p, -1, -1), -1);
        }
        due.is("no entries", x.near(0, 0, 0), -2);
        x.drop(1, 4);
        int[] rest = {2, 3, 0, 1};
        for (int k = 0; k < 4; k++) {
            due.is("without the last, near " + k, x.near(1, red(15), k), rest[k]);
        }
        due.is("without the last", x.near(1, red(15), 4), -2);
        Due.mix(x, 1, Due.rgb(10, 0, 0), Due.rgb(0, 8, 0), Due.rgb(0, 6, 6), Due.rgb(5, 5, 0));
        int[][] orders = {{3, 1, 2, 0}, {3, 0, 2, 1}, {3, 2, 1, 0}, {1, 0, 3, 2}};
        for (int metric = 0; metric < 4; metric++) {
            x.rule(0, metric);
            for (int k = 0; k < 4; k++) {
                due.is("metric " + metric + ", near " + k, x.near(1, 0, k), orders[metric][k]);
            }
        }
    }
}
