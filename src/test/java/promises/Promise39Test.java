/** Promise 39: judge. */
final class Promise39Test extends Promise {
    public static void main(String[] args) {
        runTestsOf(Promise39Test.class);
    }

    /** A sheet of the entries 2 0 2 0. */
    private static DitherDesk made() {
        DitherDesk x = new DitherDesk();
        x.picture(0, 2, 2);
        x.paint(0, 1, 0, 9);
        x.paint(0, 1, 1, 9);
        Due.mix(x, 0, 9, 5, 0);
        is(x.make(0, 0, 0), 2);
        return x;
    }

    @Says("are JUDGED: the first that is otherwise")
    static void theFirstAndTheLast() {
        DitherDesk x = made();
        tapeOf(x, 0, 0, 1, 0, 2, 0);
        is(x.judge(0, 0), 0);
        tapeOf(x, 0, 0, 2, 0, 2, 1);
        is(x.judge(0, 0), 3);
        tapeOf(x, 0, 0, 2, 1, 1, 1);
        is(x.judge(0, 0), 1);
    }

    @Says("-5: none, or no SHEET is MADE")
    static void neverIfNoneIsOtherwise() {
        DitherDesk x = made();
        tapeOf(x, 0, 0, 2, 0, 2, 0);
        is(x.judge(0, 0), NEVER);
        tapeOf(x, 0, 0, 7, 2, 0, 2, 0, 7);
        is(x.judge(0, 1), NEVER);
        tapeOf(x, 0, 0, 7, 2, 0, 2, 0);
        is(x.judge(0, 1), NEVER);
    }

    @Says("-5: none, or no SHEET is MADE")
    static void neverWithoutASheet() {
        DitherDesk x = new DitherDesk();
        x.tape(0, 0, 10);
        is(x.judge(0, 0), NEVER);
        is(x.judge(0, 10), NEVER);
        x.tape(0, 0, 0);
        is(x.judge(0, 0), NEVER);
    }

    @Says("-5: none, or no SHEET is MADE; 200 and how many were looked at")
    static void neverWithoutASheetIsAheadOf200() {
        DitherDesk x = new DitherDesk();
        is(x.judge(0, 0), NEVER);
        x.tape(0, 0, 10);
        is(x.judge(0, -1), NEVER);
    }

    @Says("200 and how many were looked at, if the row ends ahead of that")
    static void theRowEndsOneAheadOfTheLast() {
        DitherDesk x = made();
        tapeOf(x, 0, 0, 2, 0, 2);
        is(x.judge(0, 0), 203);
        tapeOf(x, 0, 0, 7, 7, 2);
        is(x.judge(0, 2), 201);
    }

    @Says("200 and how many were looked at, if the row ends ahead of that")
    static void anEmptyRow() {
        DitherDesk x = made();
        x.tape(0, 0, 0);
        is(x.judge(0, 0), 200);
        is(x.judge(0, -1), 200);
    }

    @Says("200 and how many were looked at, if the row ends ahead of that")
    static void fromTheEndOfTheRowOrBeyond() {
        DitherDesk x = made();
        tapeOf(x, 0, 0, 2, 0, 2, 0);
        is(x.judge(0, 4), 200);
        is(x.judge(0, 5), 200);
        is(x.judge(0, MAX), 200);
        is(x.judge(0, MAX - 1), 200);
    }

    @Says("if the row ends ahead of that")
    static void otherwiseAheadOfTheEnd() {
        DitherDesk x = made();
        tapeOf(x, 0, 0, 2, 1);
        is(x.judge(0, 0), 1);
        tapeOf(x, 0, 0, 1);
        is(x.judge(0, 0), 0);
    }

    @Says("(or the place is below 0, or the TAPE holds nothing)")
    static void aPlaceBelow0() {
        DitherDesk x = made();
        tapeOf(x, 0, 0, 2, 0, 2, 0);
        is(x.judge(0, -1), 200);
        is(x.judge(0, MIN), 200);
        is(x.judge(0, 0), NEVER);
    }

    @Says("(or the place is below 0, or the TAPE holds nothing)")
    static void aTapeThatHoldsNothing() {
        DitherDesk x = made();
        is(x.judge(0, 0), 200);
        tapeOf(x, 5, 0, 2, 0, 2, 0);
        x.tape(5, -1, 0);
        is(x.judge(5, 0), 200);
    }

    @Says("NONE: tape; CAST: it is no row of bytes.")
    static void castIsAnotherSort() {
        DitherDesk x = made();
        for (int sort = 1; sort < 4; sort++) {
            x.tape(0, sort, 4);
            is(x.judge(0, 0), CAST);
            is(x.judge(0, -1), CAST);
            is(x.judge(0, 4), CAST);
            x.tape(0, sort, 0);
            is(x.judge(0, 0), CAST);
        }
    }

    @Says("NONE: tape; CAST: it is no row of bytes.")
    static void castWithoutASheetToo() {
        DitherDesk x = new DitherDesk();
        for (int sort = 1; sort < 4; sort++) {
            x.tape(0, sort, 4);
            is(x.judge(0, 0), CAST);
        }
    }

    @Says("NONE: tape; CAST: it is no row of bytes.")
    static void noneIsATapeBelowOrAbove() {
        DitherDesk x = made();
        for (int tape : new int[] {-1, 6, MIN, MAX}) {
            is(x.judge(tape, 0), NONE);
        }
        DitherDesk y = new DitherDesk();
        is(y.judge(-1, 0), NONE);
        is(y.judge(6, 0), NONE);
    }

    @Says("PIXEL by PIXEL, are JUDGED")
    static void allOfTheGreatest() {
        DitherDesk x = new DitherDesk();
        x.picture(0, 12, 12);
        x.paint(0, 11, 11, 9);
        Due.mix(x, 0, 0, 9);
        x.make(0, 0, 0);
        x.tape(0, 0, 150);
        x.item(0, 149, 1);
        is(x.judge(0, 6), NEVER);
        is(x.judge(0, 5), 143);
        x.item(0, 149, 0);
        is(x.judge(0, 7), 343);
        x.tape(0, 0, 144);
        is(x.judge(0, 0), 143);
        x.item(0, 143, 1);
        is(x.judge(0, 0), NEVER);
    }

    @Says("(its lowest bits, as many as an item has; floats: v cast)")
    static void bytesWrapAround() {
        DitherDesk x = made();
        tapeOf(x, 0, 0, 258, -256, 2, 512);
        is(x.judge(0, 0), NEVER);
        x.item(0, 0, 254);
        is(x.judge(0, 0), 0);
    }

    @Says("ENTRIES of THE SHEET told by a row of bytes")
    static void theSixteenthEntry() {
        DitherDesk x = new DitherDesk();
        Due.row(x, 0, red(60), red(0));
        for (int e = 0; e < 16; e++) {
            x.entry(0, red(4 * e));
        }
        x.make(0, 0, 0);
        tapeOf(x, 0, 0, 15, 0);
        is(x.judge(0, 0), NEVER);
        tapeOf(x, 0, 0, 14, 0);
        is(x.judge(0, 0), 0);
    }
}
