/** Promise 45: peek. */
final class Promise45Test extends Promise {
    public static void main(String[] args) {
        runTestsOf(Promise45Test.class);
    }

    @Says("NO: no such TAPE, nothing there, no such place.")
    static void noIsATapeBelowOrAbove() {
        DitherDesk x = new DitherDesk();
        x.tape(0, 0, 3);
        x.tape(5, 0, 3);
        for (int tape : new int[] {-1, 6, MIN, MAX}) {
            is(x.peek(tape, 0), NO);
        }
        is(x.peek(0, 0), 0);
        is(x.peek(5, 0), 0);
    }

    @Says("NO: no such TAPE, nothing there, no such place.")
    static void noIsATapeThatHoldsNothing() {
        DitherDesk x = new DitherDesk();
        is(x.peek(0, 0), NO);
        tapeOf(x, 0, 2, 5, 6);
        x.tape(0, -1, 2);
        is(x.peek(0, 0), NO);
        is(x.peek(0, 1), NO);
    }

    @Says("NO: no such TAPE, nothing there, no such place.")
    static void noIsAPlaceBelow0() {
        DitherDesk x = new DitherDesk();
        for (int sort = 0; sort < 4; sort++) {
            x.tape(0, sort, 3);
            is(x.peek(0, -1), NO);
            is(x.peek(0, MIN), NO);
        }
    }

    @Says("NO: no such TAPE, nothing there, no such place.")
    static void noIsAPlaceFromTheEndOn() {
        DitherDesk x = new DitherDesk();
        for (int sort = 0; sort < 4; sort++) {
            x.tape(0, sort, 3);
            is(x.peek(0, 2), 0);
            is(x.peek(0, 3), NO);
            is(x.peek(0, 149), NO);
            is(x.peek(0, 150), NO);
            is(x.peek(0, MAX), NO);
        }
    }

    @Says("NO: no such TAPE, nothing there, no such place.")
    static void noIsAnyOfAnEmptyRow() {
        DitherDesk x = new DitherDesk();
        x.tape(0, 3, 0);
        is(x.peek(0, 0), NO);
    }

    @Says("Item i of a TAPE (floats: floatToIntBits).")
    static void floatsAsTheirBits() {
        DitherDesk x = new DitherDesk();
        for (int v = -300; v <= 300; v += 25) {
            tapeOf(x, 0, 3, v);
            is(x.peek(0, 0), Float.floatToIntBits((float) v));
        }
        x.item(0, 0, -1);
        is(x.peek(0, 0), -1082130432L);
    }

    @Says("Item i of a TAPE (floats: floatToIntBits).")
    static void intsOfTheLeastAndTheGreatest() {
        DitherDesk x = new DitherDesk();
        tapeOf(x, 0, 2, MIN, MAX, -1);
        is(x.peek(0, 0), -2147483648L);
        is(x.peek(0, 1), 2147483647L);
        is(x.peek(0, 2), -1L);
    }
}
