/** Promise 43: tape. */
final class Promise43Test extends Promise {
    public static void main(String[] args) {
        runTestsOf(Promise43Test.class);
    }

    @Says("TAPES 0 .. 5 hold nothing (at first), or a row of 0 bytes, 1 shorts, 2 ints, 3 floats.")
    static void eachTapeAndSort() {
        DitherDesk x = new DitherDesk();
        for (int tape = 0; tape < 6; tape++) {
            for (int sort = 0; sort < 4; sort++) {
                is(x.tape(tape, sort, 2), 1);
                tapeIs(x, tape, 0, 0);
            }
        }
    }

    @Says("NONE: tape;")
    static void noneIsATapeBelowOrAbove() {
        DitherDesk x = new DitherDesk();
        for (int tape : new int[] {-1, 6, MIN, MAX}) {
            is(x.tape(tape, 0, 1), NONE);
            is(x.tape(tape, -1, 1), NONE);
        }
    }

    @Says("A TAPE becomes a row of n (0 .. 150) of a sort, all 0")
    static void ofNoItems() {
        DitherDesk x = new DitherDesk();
        for (int sort = 0; sort < 4; sort++) {
            is(x.tape(0, sort, 0), 1);
            is(x.peek(0, 0), NO);
            is(x.item(0, 0, 1), PLACE);
            is(x.shift(0, 0, 0, 0, 0), 0);
        }
    }

    @Says("A TAPE becomes a row of n (0 .. 150) of a sort, all 0")
    static void of150Items() {
        DitherDesk x = new DitherDesk();
        for (int sort = 0; sort < 4; sort++) {
            is(x.tape(0, sort, 150), 1);
            is(x.peek(0, 0), 0);
            is(x.peek(0, 149), 0);
            is(x.peek(0, 150), NO);
            is(x.item(0, 149, 1), 1);
            is(x.item(0, 150, 1), PLACE);
        }
    }

    @Says("BAD: sort, n above 150; SIZE.")
    static void badIsNAbove150() {
        DitherDesk x = new DitherDesk();
        for (int sort = 0; sort < 4; sort++) {
            is(x.tape(0, sort, 151), BAD);
            is(x.tape(0, sort, MAX), BAD);
        }
        is(x.item(0, 0, 1), NOTHING);
    }

    @Says("SIZE (-14): a size below 0.")
    static void sizeIsNBelow0() {
        DitherDesk x = new DitherDesk();
        for (int sort = 0; sort < 4; sort++) {
            is(x.tape(0, sort, -1), SIZE);
            is(x.tape(0, sort, MIN), SIZE);
        }
        is(x.item(0, 0, 1), NOTHING);
    }

    @Says("BAD: sort, n above 150; SIZE.")
    static void badIsASortBelowMinus1OrAbove3() {
        DitherDesk x = new DitherDesk();
        for (int sort : new int[] {-2, 4, MIN, MAX}) {
            is(x.tape(0, sort, 1), BAD);
            is(x.tape(0, sort, 0), BAD);
        }
        is(x.item(0, 0, 1), NOTHING);
    }

    @Says("BAD: sort, n above 150; SIZE.")
    static void badIsAheadOfSize() {
        DitherDesk x = new DitherDesk();
        is(x.tape(0, -2, -1), BAD);
        is(x.tape(0, 4, MIN), BAD);
    }

    @Says("NONE: tape; BAD: sort, n above 150; SIZE.")
    static void noneIsAheadOfAllElse() {
        DitherDesk x = new DitherDesk();
        is(x.tape(6, 4, 1), NONE);
        is(x.tape(-1, 0, 151), NONE);
        is(x.tape(6, 0, -1), NONE);
    }

    @Says("or holds nothing (sort -1: n does not matter): 1.")
    static void sortMinus1HoldsNothing() {
        DitherDesk x = new DitherDesk();
        for (int n : new int[] {0, 1, 150, 151, -1, MIN, MAX}) {
            x.tape(1, 2, 5);
            is(x.tape(1, -1, n), 1);
            is(x.item(1, 0, 1), NOTHING);
            is(x.peek(1, 0), NO);
        }
        is(x.tape(2, -1, 0), 1);
    }

    @Says("A TAPE becomes a row of n (0 .. 150) of a sort, all 0")
    static void all0Anew() {
        DitherDesk x = new DitherDesk();
        tapeOf(x, 0, 0, 5, 6, 7);
        is(x.tape(0, 0, 3), 1);
        tapeIs(x, 0, 0, 0, 0);
        tapeOf(x, 0, 2, 5, 6, 7);
        x.tape(0, 1, 1);
        is(x.tape(0, 2, 3), 1);
        tapeIs(x, 0, 0, 0, 0);
        tapeOf(x, 0, 2, 5, 6, 7);
        x.tape(0, -1, 0);
        x.tape(0, 2, 3);
        tapeIs(x, 0, 0, 0, 0);
    }

    @Says("What is answered so changes nothing.")
    static void refusedTheTapeStays() {
        DitherDesk x = new DitherDesk();
        tapeOf(x, 0, 1, 5, 6);
        x.tape(0, 1, 151);
        x.tape(0, 2, -1);
        x.tape(0, 4, 1);
        x.tape(0, -2, 1);
        x.tape(6, 0, 1);
        tapeIs(x, 0, 5, 6);
    }
}
