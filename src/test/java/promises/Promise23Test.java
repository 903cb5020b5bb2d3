/** Promise 23: nearest. */
final class Promise23Test extends Promise {
    public static void main(String[] args) {
        runTestsOf(Promise23Test.class);
    }

    @Says("NEAREST (-5: no ENTRIES).")
    static void neverOfAnEmptyPalette() {
        DitherDesk x = new DitherDesk();
        for (int palette = 0; palette < 4; palette++) {
            is(x.nearest(palette, 0), NEVER);
            is(x.nearest(palette, WHITE), NEVER);
        }
        x.entry(0, 5);
        x.drop(0, 0);
        is(x.nearest(0, 5), NEVER);
    }

    @Says("the ENTRY that is least FAR from it")
    static void theOnlyOne() {
        DitherDesk x = new DitherDesk();
        x.entry(3, 0);
        is(x.nearest(3, 0), 0);
        is(x.nearest(3, WHITE), 0);
    }

    @Says("the ENTRY that is least FAR from it; of like ones the least.")
    static void ofLikeOnesTheLeast() {
        DitherDesk x = new DitherDesk();
        Due.mix(x, 0, red(20), red(10), red(12));
        is(x.nearest(0, red(16)), 0);
        is(x.nearest(0, red(15)), 2);
        is(x.nearest(0, red(11)), 1);
        Due.mix(x, 1, red(10), red(20));
        for (int metric = 0; metric < 4; metric++) {
            x.rule(0, metric);
            is(x.nearest(1, red(15)), 0);
        }
    }

    @Says("the ENTRY that is least FAR from it")
    static void theSixteenth() {
        DitherDesk x = new DitherDesk();
        for (int e = 0; e < 16; e++) {
            x.entry(2, red(4 * e));
        }
        is(x.nearest(2, WHITE), 15);
        is(x.nearest(2, red(0)), 0);
        is(x.nearest(2, red(59)), 15);
        is(x.nearest(2, red(58)), 14);
    }

    @Says("told as one NUMBER: 4096 times red, 64 times green, and blue.")
    static void theLeastAndTheGreatestColour() {
        DitherDesk x = new DitherDesk();
        Due.mix(x, 0, 262143, 0);
        is(x.nearest(0, 0), 1);
        is(x.nearest(0, 262143), 0);
    }

    @Says("NEAREST (-5: no ENTRIES). NONE; BAD.")
    static void badIsAColourBelowOrAbove() {
        DitherDesk x = new DitherDesk();
        x.entry(0, 5);
        for (int colour : new int[] {-1, 262144, MIN, MAX}) {
            is(x.nearest(0, colour), BAD);
        }
    }

    @Says("NEAREST (-5: no ENTRIES). NONE; BAD.")
    static void noneIsAPaletteBelowOrAbove() {
        DitherDesk x = new DitherDesk();
        x.entry(0, 5);
        x.entry(3, 5);
        for (int palette : new int[] {-1, 4, MIN, MAX}) {
            is(x.nearest(palette, 0), NONE);
            is(x.nearest(palette, -1), NONE);
        }
    }

    @Says("BAD (-2) a number is not as told")
    static void badOfAnEmptyPaletteToo() {
        DitherDesk x = new DitherDesk();
        is(x.nearest(0, -1), BAD);
        is(x.nearest(0, 262144), BAD);
    }

    @Says("the ENTRY that is least FAR from it")
    static void oneThatWentIsNotNear() {
        DitherDesk x = new DitherDesk();
        Due.mix(x, 0, red(10), red(30), red(20));
        x.drop(0, 2);
        is(x.nearest(0, red(21)), 1);
        is(x.nearest(0, red(20)), 0);
    }
}
