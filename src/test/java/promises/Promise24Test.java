/** Promise 24: near. */
final class Promise24Test extends Promise {
    public static void main(String[] args) {
        runTestsOf(Promise24Test.class);
    }

    private static DitherDesk five() {
        DitherDesk x = new DitherDesk();
        Due.mix(x, 1, red(20), red(10), red(12), red(18), red(15));
        return x;
    }

    @Says("The k-th ENTRY by how FAR it is from a COLOUR, of like ones by number.")
    static void ofLikeOnesByNumber() {
        DitherDesk x = five();
        is(x.near(1, red(15), 0), 4);
        is(x.near(1, red(15), 1), 2);
        is(x.near(1, red(15), 2), 3);
        is(x.near(1, red(15), 3), 0);
        is(x.near(1, red(15), 4), 1);
    }

    @Says("BAD: colour, there is no k-th.")
    static void badIsKBelow0() {
        DitherDesk x = five();
        is(x.near(1, 0, -1), BAD);
        is(x.near(1, 0, MIN), BAD);
    }

    @Says("BAD: colour, there is no k-th.")
    static void badIsKFromHowManyThereAreOn() {
        DitherDesk x = five();
        is(x.near(1, 0, 4), 0);
        is(x.near(1, 0, 5), BAD);
        is(x.near(1, 0, 16), BAD);
        is(x.near(1, 0, MAX), BAD);
        x.drop(1, 0);
        is(x.near(1, 0, 4), BAD);
        is(x.near(1, 0, 3), 2);
    }

    @Says("BAD: colour, there is no k-th.")
    static void badIsAnyOfAnEmptyPalette() {
        DitherDesk x = five();
        is(x.near(0, 0, 0), BAD);
        is(x.near(0, 0, -1), BAD);
    }

    @Says("BAD: colour, there is no k-th.")
    static void badIsAColourBelowOrAbove() {
        DitherDesk x = five();
        for (int colour : new int[] {-1, 262144, MIN, MAX}) {
            is(x.near(1, colour, 0), BAD);
        }
    }

    @Says("told as one NUMBER: 4096 times red, 64 times green, and blue.")
    static void theLeastAndTheGreatestColour() {
        DitherDesk x = five();
        is(x.near(1, 0, 0), 1);
        is(x.near(1, 262143, 0), 0);
    }

    @Says("The k-th ENTRY by how FAR it is from a COLOUR")
    static void theSixteenth() {
        DitherDesk x = new DitherDesk();
        for (int e = 0; e < 16; e++) {
            x.entry(2, red(60 - 4 * e));
        }
        is(x.near(2, 0, 0), 15);
        is(x.near(2, 0, 15), 0);
        is(x.near(2, 0, 16), BAD);
    }

    @Says("NONE; BAD: colour, there is no k-th.")
    static void noneIsAPaletteBelowOrAbove() {
        DitherDesk x = five();
        for (int palette : new int[] {-1, 4, MIN, MAX}) {
            is(x.near(palette, 0, 0), NONE);
            is(x.near(palette, -1, 99), NONE);
        }
    }

    @Says("The k-th ENTRY by how FAR it is from a COLOUR")
    static void byTheMetric() {
        DitherDesk x = new DitherDesk();
        // squares 100 64 72 50, weighed 200 256 252 150, greatest 10 8 6 5, streets 10 8 12 10
        Due.mix(x, 0, Due.rgb(10, 0, 0), Due.rgb(0, 8, 0), Due.rgb(0, 6, 6), Due.rgb(5, 5, 0));
        int[] last = {0, 1, 0, 2};
        for (int metric = 0; metric < 4; metric++) {
            x.rule(0, metric);
            is(x.near(0, 0, 3), last[metric]);
            is(x.near(0, 0, 0), metric == 3 ? 1 : 3);
        }
    }
}
