/** Promise 46: twin. */
final class Promise46Test extends Promise {
    public static void main(String[] args) {
        runTestsOf(Promise46Test.class);
    }

    @Says("A TAPE becomes a row like another one's, of its own")
    static void itsOwn() {
        DitherDesk x = new DitherDesk();
        tapeOf(x, 1, 1, 5, 6, 7);
        is(x.twin(2, 1), 3);
        tapeIs(x, 2, 5, 6, 7);
        x.item(2, 0, 9);
        tapeIs(x, 1, 5, 6, 7);
        x.item(1, 2, 8);
        tapeIs(x, 2, 9, 6, 7);
    }

    @Says("A TAPE becomes a row like another one's")
    static void ofEachSort() {
        DitherDesk x = new DitherDesk();
        for (int sort = 0; sort < 4; sort++) {
            x.tape(1, sort, 1);
            x.item(1, 0, 3);
            x.tape(2, 3 - sort, 5);
            is(x.twin(2, 1), 1);
            is(x.peek(2, 0), sort == 3 ? 0x40400000 : 3);
            is(x.peek(2, 1), NO);
            is(x.shift(1, 0, 2, 0, 1), 1);
        }
    }

    @Says("A TAPE becomes a row like another one's")
    static void of150Items() {
        DitherDesk x = new DitherDesk();
        x.tape(0, 0, 150);
        x.item(0, 149, 7);
        is(x.twin(5, 0), 150);
        is(x.peek(5, 149), 7);
        is(x.peek(5, 0), 0);
    }

    @Says("how many it has (0, if nothing).")
    static void ofAnEmptyRow() {
        DitherDesk x = new DitherDesk();
        x.tape(1, 0, 0);
        tapeOf(x, 2, 0, 5);
        is(x.twin(2, 1), 0);
        is(x.peek(2, 0), NO);
        is(x.item(2, 0, 1), PLACE);
    }

    @Says("(or holds nothing, if that does): how many it has (0, if nothing).")
    static void ofOneThatHoldsNothing() {
        DitherDesk x = new DitherDesk();
        tapeOf(x, 2, 0, 5);
        is(x.twin(2, 1), 0);
        is(x.peek(2, 0), NO);
        is(x.item(2, 0, 1), NOTHING);
        is(x.twin(3, 4), 0);
        is(x.item(3, 0, 1), NOTHING);
    }

    @Says("A TAPE becomes a row like another one's")
    static void ofItself() {
        DitherDesk x = new DitherDesk();
        tapeOf(x, 1, 2, 5, 6);
        is(x.twin(1, 1), 2);
        tapeIs(x, 1, 5, 6);
        is(x.twin(0, 0), 0);
        is(x.item(0, 0, 1), NOTHING);
    }

    @Says("how many it has (0, if nothing). NONE.")
    static void noneIsATapeBelowOrAbove() {
        DitherDesk x = new DitherDesk();
        tapeOf(x, 0, 2, 5, 6);
        tapeOf(x, 5, 2, 7);
        for (int tape : new int[] {-1, 6, MIN, MAX}) {
            is(x.twin(tape, 0), NONE);
            is(x.twin(0, tape), NONE);
            is(x.twin(5, tape), NONE);
            is(x.twin(tape, tape), NONE);
        }
        tapeIs(x, 0, 5, 6);
        tapeIs(x, 5, 7);
    }
}
