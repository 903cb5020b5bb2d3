/** Promise 22: far. */
final class Promise22Test extends Promise {
    public static void main(String[] args) {
        runTestsOf(Promise22Test.class);
    }

    private static void farIs(int metric, int one, int other, int due) {
        DitherDesk x = new DitherDesk();
        x.rule(0, metric);
        is(x.far(one, other), due);
        is(x.far(other, one), due);
    }

    @Says("How FAR two COLOURS are.")
    static void fromItself0() {
        for (int metric = 0; metric < 4; metric++) {
            farIs(metric, 0, 0, 0);
            farIs(metric, WHITE, WHITE, 0);
            farIs(metric, 4227, 4227, 0);
        }
    }

    @Says("0 SQUARES: the squares of how far they are on each CHANNEL, together")
    static void squaresTheMost() {
        farIs(0, 0, WHITE, 11907);
        farIs(0, red(63), 0, 3969);
        farIs(0, green(63), 0, 3969);
        farIs(0, 63, 0, 3969);
    }

    @Says("1 WEIGHED: twice red's square, four times green's, three times blue's, together")
    static void weighedTheMost() {
        farIs(1, 0, WHITE, 35721);
        farIs(1, red(63), 0, 7938);
        farIs(1, green(63), 0, 15876);
        farIs(1, 63, 0, 11907);
    }

    @Says("2 GREATEST: the greatest of how far they are on a CHANNEL")
    static void greatestTheMost() {
        farIs(2, 0, WHITE, 63);
        farIs(2, red(9), Due.rgb(0, 3, 2), 9);
        farIs(2, green(9), Due.rgb(3, 0, 2), 9);
        farIs(2, 9, Due.rgb(3, 2, 0), 9);
    }

    @Says("3 STREETS: these, together.")
    static void streetsTheMost() {
        farIs(3, 0, WHITE, 189);
        farIs(3, Due.rgb(63, 0, 1), Due.rgb(0, 5, 0), 69);
    }

    @Says("How FAR two COLOURS are. BAD.")
    static void badIsAColourBelowOrAbove() {
        DitherDesk x = new DitherDesk();
        for (int metric = 0; metric < 4; metric++) {
            x.rule(0, metric);
            for (int colour : new int[] {-1, 262144, MIN, MAX}) {
                is(x.far(colour, 0), BAD);
                is(x.far(0, colour), BAD);
                is(x.far(colour, colour), BAD);
            }
        }
    }
}
