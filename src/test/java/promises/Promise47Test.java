/** Promise 47: shift. */
final class Promise47Test extends Promise {
    public static void main(String[] args) {
        runTestsOf(Promise47Test.class);
    }

    /** Tape 0 of 1 2 3 4 5, tape 1 of 0 0 0 0, both ints. */
    private static DitherDesk two() {
        DitherDesk x = new DitherDesk();
        tapeOf(x, 0, 2, 1, 2, 3, 4, 5);
        x.tape(1, 2, 4);
        return x;
    }

    private static void refused(DitherDesk x, int i, int j, int n) {
        is(x.shift(0, i, 1, j, n), PLACE);
        tapeIs(x, 0, 1, 2, 3, 4, 5);
        tapeIs(x, 1, 0, 0, 0, 0);
    }

    @Says("n items of a TAPE from i on come to another one (or the same) from j on")
    static void asManyAsFit() {
        DitherDesk x = two();
        is(x.shift(0, 0, 1, 0, 4), 4);
        tapeIs(x, 1, 1, 2, 3, 4);
        is(x.shift(0, 1, 1, 0, 4), 4);
        tapeIs(x, 1, 2, 3, 4, 5);
        tapeIs(x, 0, 1, 2, 3, 4, 5);
    }

    @Says("n items of a TAPE from i on come to another one (or the same) from j on")
    static void oneFromTheEndToTheEnd() {
        DitherDesk x = two();
        is(x.shift(0, 4, 1, 3, 1), 1);
        tapeIs(x, 1, 0, 0, 0, 5);
    }

    @Says("as they all were before: n.")
    static void noneAtAll() {
        DitherDesk x = two();
        is(x.shift(0, 0, 1, 0, 0), 0);
        is(x.shift(0, 5, 1, 4, 0), 0);
        tapeIs(x, 1, 0, 0, 0, 0);
    }

    @Says("PLACE: n, i or j is below 0, or beyond either's end.")
    static void placeIsNBelow0() {
        DitherDesk x = two();
        refused(x, 0, 0, -1);
        refused(x, 1, 1, MIN);
        refused(x, 5, 4, -1);
    }

    @Says("PLACE: n, i or j is below 0, or beyond either's end.")
    static void placeIsIBelow0() {
        DitherDesk x = two();
        refused(x, -1, 0, 1);
        refused(x, -1, 0, 0);
        refused(x, MIN, 0, 1);
    }

    @Says("PLACE: n, i or j is below 0, or beyond either's end.")
    static void placeIsJBelow0() {
        DitherDesk x = two();
        refused(x, 0, -1, 1);
        refused(x, 0, -1, 0);
        refused(x, 0, MIN, 1);
    }

    @Says("PLACE: n, i or j is below 0, or beyond either's end.")
    static void placeIsBeyondTheFirstOnesEnd() {
        DitherDesk x = two();
        refused(x, 5, 0, 1);
        refused(x, 4, 0, 2);
        refused(x, 2, 0, 4);
        refused(x, 6, 0, 0);
        refused(x, MAX, 0, 1);
    }

    @Says("PLACE: n, i or j is below 0, or beyond either's end.")
    static void placeIsBeyondTheOtherOnesEnd() {
        DitherDesk x = two();
        refused(x, 0, 4, 1);
        refused(x, 0, 3, 2);
        refused(x, 0, 0, 5);
        refused(x, 0, 5, 0);
        refused(x, 0, MAX, 1);
    }

    @Says("PLACE: n, i or j is below 0, or beyond either's end.")
    static void placeWhereSumsWrapAround() {
        DitherDesk x = two();
        refused(x, 1, 0, MAX);
        refused(x, 0, 1, MAX);
        refused(x, 1, 1, MAX);
        refused(x, 5, 4, MAX);
        refused(x, MAX, MAX, MAX);
        refused(x, MAX, MAX, 2);
        refused(x, MAX, 0, MIN);
    }

    @Says("come to another one (or the same) from j on, as they all were before")
    static void upwardsOnTheSame() {
        DitherDesk x = two();
        is(x.shift(0, 0, 0, 1, 4), 4);
        tapeIs(x, 0, 1, 1, 2, 3, 4);
    }

    @Says("come to another one (or the same) from j on, as they all were before")
    static void downwardsOnTheSame() {
        DitherDesk x = two();
        is(x.shift(0, 1, 0, 0, 4), 4);
        tapeIs(x, 0, 2, 3, 4, 5, 5);
    }

    @Says("come to another one (or the same) from j on, as they all were before")
    static void toTheSamePlaceOnTheSame() {
        DitherDesk x = two();
        is(x.shift(0, 0, 0, 0, 5), 5);
        tapeIs(x, 0, 1, 2, 3, 4, 5);
        is(x.shift(0, 0, 0, 1, 5), PLACE);
        is(x.shift(0, 1, 0, 0, 5), PLACE);
    }

    @Says("NONE: tapes;")
    static void noneIsATapeBelowOrAbove() {
        DitherDesk x = two();
        x.tape(5, 2, 4);
        for (int tape : new int[] {-1, 6, MIN, MAX}) {
            is(x.shift(tape, 0, 0, 0, 1), NONE);
            is(x.shift(0, 0, tape, 0, 1), NONE);
        }
        is(x.shift(0, 0, 5, 0, 1), 1);
    }

    @Says("NOTHING; CAST: of unlike sorts;")
    static void nothingIsOneThatHoldsNothing() {
        DitherDesk x = two();
        is(x.shift(2, 0, 0, 0, 0), NOTHING);
        is(x.shift(0, 0, 2, 0, 0), NOTHING);
        is(x.shift(2, 0, 2, 0, 0), NOTHING);
        x.tape(0, -1, 0);
        is(x.shift(0, 0, 1, 0, 1), NOTHING);
    }

    @Says("NOTHING; CAST: of unlike sorts;")
    static void castIsOfUnlikeSorts() {
        DitherDesk x = new DitherDesk();
        for (int sort = 0; sort < 4; sort++) {
            for (int other = 0; other < 4; other++) {
                x.tape(0, sort, 2);
                x.tape(1, other, 2);
                is(x.shift(0, 0, 1, 0, 1), sort == other ? 1 : CAST);
                is(x.shift(0, 0, 1, 0, 0), sort == other ? 0 : CAST);
            }
        }
    }

    @Says("NONE: tapes; NOTHING; CAST: of unlike sorts; PLACE")
    static void noneThenNothingThenCastThenPlace() {
        DitherDesk x = two();
        x.tape(3, 0, 4);
        is(x.shift(6, -1, 2, 0, 0), NONE);
        is(x.shift(2, -1, 6, 0, 0), NONE);
        is(x.shift(2, -1, 3, 0, 0), NOTHING);
        is(x.shift(3, 0, 2, 9, 0), NOTHING);
        is(x.shift(0, -1, 3, 0, 0), CAST);
        is(x.shift(0, 0, 3, 0, 9), CAST);
    }

    @Says("n items of a TAPE from i on come to another one (or the same)")
    static void hundredAndFiftyItems() {
        DitherDesk x = new DitherDesk();
        x.tape(0, 0, 150);
        x.tape(1, 0, 150);
        x.item(0, 0, 5);
        x.item(0, 149, 6);
        is(x.shift(0, 0, 1, 0, 150), 150);
        is(x.peek(1, 0), 5);
        is(x.peek(1, 149), 6);
        is(x.shift(0, 0, 1, 0, 151), PLACE);
    }

    @Says("n items of a TAPE from i on come to another one (or the same)")
    static void emptyRows() {
        DitherDesk x = new DitherDesk();
        x.tape(0, 3, 0);
        x.tape(1, 3, 0);
        is(x.shift(0, 0, 1, 0, 0), 0);
        is(x.shift(0, 0, 1, 0, 1), PLACE);
        is(x.shift(0, 1, 1, 0, 0), PLACE);
    }

    @Says("n items of a TAPE from i on come to another one (or the same)")
    static void floatsAndBytesBelow0() {
        DitherDesk x = new DitherDesk();
        tapeOf(x, 0, 3, -7);
        x.tape(1, 3, 1);
        is(x.shift(0, 0, 1, 0, 1), 1);
        is(x.peek(1, 0), Float.floatToIntBits(-7f));
        tapeOf(x, 0, 0, -128);
        x.tape(1, 0, 1);
        is(x.shift(0, 0, 1, 0, 1), 1);
        is(x.peek(1, 0), -128);
    }
}
