/** Promise 28: used. */
final class Promise28Test extends Promise {
    public static void main(String[] args) {
        runTestsOf(Promise28Test.class);
    }

    private static DitherDesk made() {
        DitherDesk x = new DitherDesk();
        Due.row(x, 0, 0, 9, 9, 0, 9, 30);
        Due.mix(x, 0, 0, 30, 50, 9);
        x.make(0, 0, 0);
        return x;
    }

    @Says("How many PIXELS of THE SHEET have an ENTRY (0 .. 15).")
    static void someNoneAndTheLast() {
        DitherDesk x = made();
        is(x.used(0), 2);
        is(x.used(1), 1);
        is(x.used(2), 0);
        is(x.used(3), 3);
        is(x.used(4), 0);
        is(x.used(15), 0);
    }

    @Says("How many PIXELS of THE SHEET have an ENTRY (0 .. 15).")
    static void allOfTheGreatest() {
        DitherDesk x = new DitherDesk();
        x.picture(0, 12, 12);
        x.entry(0, 0);
        x.make(0, 0, 0);
        is(x.used(0), 144);
    }

    @Says("How many PIXELS of THE SHEET have an ENTRY (0 .. 15).")
    static void theSixteenthEntry() {
        DitherDesk x = new DitherDesk();
        Due.row(x, 0, red(60), red(61), red(0));
        for (int e = 0; e < 16; e++) {
            x.entry(0, red(4 * e));
        }
        x.make(0, 0, 0);
        is(x.used(15), 2);
    }

    @Says("BAD; STATE: none is MADE.")
    static void badIsAnEntryBelow0OrAbove15() {
        DitherDesk x = made();
        is(x.used(-1), BAD);
        is(x.used(16), BAD);
        is(x.used(MIN), BAD);
        is(x.used(MAX), BAD);
    }

    @Says("BAD; STATE: none is MADE.")
    static void stateWithoutASheet() {
        DitherDesk x = new DitherDesk();
        is(x.used(0), STATE);
        is(x.used(15), STATE);
    }

    @Says("BAD; STATE: none is MADE.")
    static void badIsAheadOfState() {
        DitherDesk x = new DitherDesk();
        is(x.used(-1), BAD);
        is(x.used(16), BAD);
    }

    @Says("its ENTRY's number, and that one's COLOUR, all as they were then.")
    static void entriesThatWentAreUsedStill() {
        DitherDesk x = made();
        x.drop(0, 3);
        x.drop(0, 0);
        is(x.used(3), 3);
        is(x.used(0), 2);
    }
}
