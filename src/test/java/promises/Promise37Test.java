/** Promise 37: book. */
final class Promise37Test extends Promise {
    public static void main(String[] args) {
        runTestsOf(Promise37Test.class);
    }

    private static DitherDesk eight() {
        DitherDesk x = new DitherDesk();
        for (int i = 1; i <= 8; i++) {
            is(x.book(0, 0), i);
        }
        return x;
    }

    @Says("how many ENTRIES (0 .. 16; 8 rows at most)")
    static void theLeastAndTheGreatest() {
        DitherDesk x = new DitherDesk();
        is(x.book(0, 0), 1);
        is(x.book(3, 16), 2);
        is(x.count(4), 2);
    }

    @Says("(palette -1: it is empty then, 0, whatever the other is). NONE; BAD; FULL: 8.")
    static void badIsManyBelow0OrAbove16() {
        DitherDesk x = new DitherDesk();
        is(x.book(0, -1), BAD);
        is(x.book(0, 17), BAD);
        is(x.book(0, MIN), BAD);
        is(x.book(0, MAX), BAD);
        is(x.count(4), 0);
    }

    @Says("(palette -1: it is empty then, 0, whatever the other is). NONE; BAD; FULL: 8.")
    static void noneIsAPaletteBelowOrAbove() {
        DitherDesk x = new DitherDesk();
        is(x.book(-2, 0), NONE);
        is(x.book(4, 0), NONE);
        is(x.book(MIN, 0), NONE);
        is(x.book(MAX, 0), NONE);
        is(x.book(4, -1), NONE);
        is(x.book(-2, 17), NONE);
        is(x.count(4), 0);
    }

    @Says("how many ENTRIES (0 .. 16; 8 rows at most)")
    static void theEighthComes() {
        DitherDesk x = eight();
        is(x.count(4), 8);
    }

    @Says("NONE; BAD; FULL: 8.")
    static void theNinthIsFull() {
        DitherDesk x = eight();
        is(x.book(0, 0), FULL);
        is(x.book(3, 16), FULL);
        is(x.count(4), 8);
    }

    @Says("NONE; BAD; FULL: 8.")
    static void noneAndBadAreAheadOfFull() {
        DitherDesk x = eight();
        is(x.book(4, 0), NONE);
        is(x.book(-2, 0), NONE);
        is(x.book(0, 17), BAD);
        is(x.book(0, -1), BAD);
    }

    @Says("(palette -1: it is empty then, 0, whatever the other is)")
    static void paletteMinus1EmptiesIt() {
        DitherDesk x = new DitherDesk();
        is(x.book(-1, 0), 0);
        x.book(0, 5);
        is(x.book(-1, 0), 0);
        is(x.count(4), 0);
        is(x.looked(), NEVER);
    }

    @Says("(palette -1: it is empty then, 0, whatever the other is)")
    static void paletteMinus1EmptiesAFullOne() {
        DitherDesk x = eight();
        is(x.book(-1, 0), 0);
        is(x.count(4), 0);
        is(x.book(0, 0), 1);
    }

    @Says("(palette -1: it is empty then, 0, whatever the other is)")
    static void whateverTheOtherIs() {
        DitherDesk x = new DitherDesk();
        for (int many : new int[] {-1, 17, 99, MIN, MAX}) {
            x.book(0, 0);
            is(x.book(-1, many), 0);
            is(x.count(4), 0);
        }
    }

    @Says("A BOOK told by hand")
    static void whatIsToldNeedNotBeSo() {
        DitherDesk x = new DitherDesk();
        is(x.book(2, 9), 1);
        is(x.book(2, 4), 2);
        is(x.count(1), 0);
    }

    @Says("What is answered so changes nothing.")
    static void refusedTheRowsStay() {
        DitherDesk x = eight();
        is(x.book(1, 5), FULL);
        is(x.book(0, 17), BAD);
        is(x.book(4, 0), NONE);
        is(x.looked(), NEVER);
        is(x.count(4), 8);
    }
}
