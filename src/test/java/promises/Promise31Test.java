/** Promise 31: see. */
final class Promise31Test extends Promise {
    public static void main(String[] args) {
        runTestsOf(Promise31Test.class);
    }

    private static DitherDesk six() {
        DitherDesk x = new DitherDesk();
        for (int i = 1; i <= 6; i++) {
            is(x.see(0, 0, 0), i);
        }
        return x;
    }

    @Says("BAD: x, y (0 .. 11), entry (0 .. 15);")
    static void theLeastAndTheGreatest() {
        DitherDesk x = new DitherDesk();
        is(x.see(0, 0, 0), 1);
        is(x.see(11, 11, 15), 2);
        is(x.count(2), 2);
    }

    @Says("BAD: x, y (0 .. 11), entry (0 .. 15);")
    static void badIsXBelowOrAbove() {
        DitherDesk x = new DitherDesk();
        is(x.see(-2, 0, 0), BAD);
        is(x.see(12, 0, 0), BAD);
        is(x.see(MIN, 0, 0), BAD);
        is(x.see(MAX, 0, 0), BAD);
        is(x.count(2), 0);
    }

    @Says("BAD: x, y (0 .. 11), entry (0 .. 15);")
    static void badIsYBelowOrAbove() {
        DitherDesk x = new DitherDesk();
        is(x.see(0, -1, 0), BAD);
        is(x.see(0, 12, 0), BAD);
        is(x.see(0, MIN, 0), BAD);
        is(x.see(0, MAX, 0), BAD);
        is(x.count(2), 0);
    }

    @Says("BAD: x, y (0 .. 11), entry (0 .. 15);")
    static void badIsAnEntryBelowOrAbove() {
        DitherDesk x = new DitherDesk();
        is(x.see(0, 0, -1), BAD);
        is(x.see(0, 0, 16), BAD);
        is(x.see(0, 0, MIN), BAD);
        is(x.see(0, 0, MAX), BAD);
        is(x.count(2), 0);
    }

    @Says("(6 rows at most)")
    static void theSixthComes() {
        DitherDesk x = six();
        is(x.count(2), 6);
    }

    @Says("FULL: 6.")
    static void theSeventhIsFull() {
        DitherDesk x = six();
        is(x.see(0, 0, 0), FULL);
        is(x.count(2), 6);
    }

    @Says("the first that a call's words name")
    static void badIsAheadOfFull() {
        DitherDesk x = six();
        is(x.see(-2, 0, 0), BAD);
        is(x.see(0, 12, 0), BAD);
        is(x.see(0, 0, 16), BAD);
    }

    @Says("(x -1: none then, 0, whatever the others are)")
    static void xMinus1EmptiesIt() {
        DitherDesk x = new DitherDesk();
        is(x.see(-1, 0, 0), 0);
        x.see(0, 0, 0);
        is(x.see(-1, 0, 0), 0);
        is(x.count(2), 0);
        is(x.see(1, 2, 3), 1);
    }

    @Says("(x -1: none then, 0, whatever the others are)")
    static void xMinus1EmptiesAFullOne() {
        DitherDesk x = six();
        is(x.see(-1, 0, 0), 0);
        is(x.count(2), 0);
        is(x.see(0, 0, 0), 1);
    }

    @Says("(x -1: none then, 0, whatever the others are)")
    static void whateverTheOthersAre() {
        DitherDesk x = new DitherDesk();
        for (int other : new int[] {-1, 12, 16, 99, MIN, MAX}) {
            x.see(0, 0, 0);
            is(x.see(-1, other, 0), 0);
            is(x.count(2), 0);
            x.see(0, 0, 0);
            is(x.see(-1, 0, other), 0);
            is(x.count(2), 0);
        }
    }

    @Says("SEEN told by hand: a PIXEL (x, y), an ENTRY (6 rows at most)")
    static void likeRowsComeTwice() {
        DitherDesk x = new DitherDesk();
        is(x.see(1, 1, 1), 1);
        is(x.see(1, 1, 1), 2);
    }

    @Says("What is answered so changes nothing.")
    static void refusedTheRowsStay() {
        DitherDesk x = new DitherDesk();
        x.picture(0, 1, 1);
        x.entry(0, 0);
        for (int i = 0; i < 6; i++) {
            x.see(0, 0, 0);
        }
        is(x.see(5, 5, 5), FULL);
        is(x.see(12, 0, 0), BAD);
        is(x.see(0, 0, 16), BAD);
        is(x.fits(0, 0, 0), 64);
        is(x.count(2), 6);
    }
}
