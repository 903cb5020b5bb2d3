/** Promise 44: item. */
final class Promise44Test extends Promise {
    public static void main(String[] args) {
        runTestsOf(Promise44Test.class);
    }

    private static void becomes(int sort, long v, long due) {
        DitherDesk x = new DitherDesk();
        x.tape(0, sort, 3);
        is(x.item(0, 1, v), 1);
        tapeIs(x, 0, 0, (int) due, 0);
        is(x.peek(0, 1), due);
    }

    @Says("Item i of a TAPE becomes v (its lowest bits, as many as an item has")
    static void bytesWrapAround() {
        becomes(0, 127, 127);
        becomes(0, 128, -128);
        becomes(0, 255, -1);
        becomes(0, 256, 0);
        becomes(0, -128, -128);
        becomes(0, -129, 127);
        becomes(0, Long.MAX_VALUE, -1);
        becomes(0, Long.MIN_VALUE, 0);
    }

    @Says("Item i of a TAPE becomes v (its lowest bits, as many as an item has")
    static void shortsWrapAround() {
        becomes(1, 32767, 32767);
        becomes(1, 32768, -32768);
        becomes(1, 65535, -1);
        becomes(1, 65536, 0);
        becomes(1, -32768, -32768);
        becomes(1, -32769, 32767);
        becomes(1, Long.MAX_VALUE, -1);
        becomes(1, Long.MIN_VALUE, 0);
    }

    @Says("Item i of a TAPE becomes v (its lowest bits, as many as an item has")
    static void intsWrapAround() {
        becomes(2, 2147483647L, 2147483647L);
        becomes(2, 2147483648L, -2147483648L);
        becomes(2, 4294967295L, -1);
        becomes(2, 4294967296L, 0);
        becomes(2, -2147483648L, -2147483648L);
        becomes(2, -2147483649L, 2147483647L);
        becomes(2, Long.MAX_VALUE, -1);
        becomes(2, Long.MIN_VALUE, 0);
    }

    @Says("floats: v cast): 1.")
    static void floatsAreExactUpTo2To24() {
        becomes(3, 0, 0);
        becomes(3, 1, 0x3F800000);
        becomes(3, -1, 0xBF800000);
        becomes(3, 16777215, 0x4B7FFFFF);
        becomes(3, 16777216, 0x4B800000);
        becomes(3, -16777216, 0xCB800000);
    }

    @Says("floats: v cast): 1.")
    static void floatsAreRoundedToTheNearestThen() {
        becomes(3, 16777217, 0x4B800000); // halves to the even
        becomes(3, 16777218, 0x4B800001);
        becomes(3, 16777219, 0x4B800002);
        becomes(3, -16777217, 0xCB800000);
        becomes(3, Integer.MAX_VALUE, 0x4F000000);
    }

    @Says("floats: v cast): 1.")
    static void theGreatestAndTheLeastFloat() {
        becomes(3, Long.MAX_VALUE, 0x5F000000);
        becomes(3, Long.MIN_VALUE, 0xDF000000);
        becomes(3, 4294967296L, 0x4F800000);
    }

    @Says("PLACE (-13): no such place")
    static void placeIsIBelow0() {
        DitherDesk x = new DitherDesk();
        for (int sort = 0; sort < 4; sort++) {
            x.tape(0, sort, 3);
            is(x.item(0, -1, 5), PLACE);
            is(x.item(0, MIN, 5), PLACE);
            tapeIs(x, 0, 0, 0, 0);
        }
    }

    @Says("PLACE (-13): no such place")
    static void placeIsIFromTheEndOn() {
        DitherDesk x = new DitherDesk();
        for (int sort = 0; sort < 4; sort++) {
            x.tape(0, sort, 3);
            is(x.item(0, 3, 5), PLACE);
            is(x.item(0, 149, 5), PLACE);
            is(x.item(0, 150, 5), PLACE);
            is(x.item(0, MAX, 5), PLACE);
            is(x.item(0, 2, 0), 1);
            tapeIs(x, 0, 0, 0, 0);
        }
    }

    @Says("PLACE (-13): no such place")
    static void placeIsAnyOfAnEmptyRow() {
        DitherDesk x = new DitherDesk();
        x.tape(0, 0, 0);
        is(x.item(0, 0, 5), PLACE);
    }

    @Says("NOTHING (-11): nothing is there")
    static void nothingIsThere() {
        DitherDesk x = new DitherDesk();
        is(x.item(0, 0, 5), NOTHING);
        x.tape(5, 2, 3);
        x.tape(5, -1, 0);
        is(x.item(5, 0, 5), NOTHING);
    }

    @Says("floats: v cast): 1. NONE; NOTHING; PLACE.")
    static void nothingIsAheadOfPlace() {
        DitherDesk x = new DitherDesk();
        is(x.item(0, -1, 5), NOTHING);
        is(x.item(0, 150, 5), NOTHING);
    }

    @Says("floats: v cast): 1. NONE; NOTHING; PLACE.")
    static void noneIsATapeBelowOrAbove() {
        DitherDesk x = new DitherDesk();
        x.tape(0, 0, 3);
        x.tape(5, 0, 3);
        for (int tape : new int[] {-1, 6, MIN, MAX}) {
            is(x.item(tape, 0, 5), NONE);
            is(x.item(tape, -1, 5), NONE);
        }
        tapeIs(x, 0, 0, 0, 0);
        tapeIs(x, 5, 0, 0, 0);
    }

    @Says("Item i of a TAPE becomes v")
    static void theFirstAndTheLastOf150() {
        DitherDesk x = new DitherDesk();
        for (int sort = 0; sort < 3; sort++) {
            x.tape(0, sort, 150);
            is(x.item(0, 0, 1), 1);
            is(x.item(0, 149, 2), 1);
            is(x.peek(0, 0), 1);
            is(x.peek(0, 1), 0);
            is(x.peek(0, 148), 0);
            is(x.peek(0, 149), 2);
        }
    }
}
