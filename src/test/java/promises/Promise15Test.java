/** Promise 15: lock. */
final class Promise15Test extends Promise {
    public static void main(String[] args) {
        runTestsOf(Promise15Test.class);
    }

    private static DitherDesk two() {
        DitherDesk x = new DitherDesk();
        Due.mix(x, 3, 10, 20);
        return x;
    }

    @Says("An ENTRY is LOCKED, or no more: whether it was.")
    static void whetherItWas() {
        DitherDesk x = two();
        is(x.lock(3, 1, true), 0);
        is(x.told(3, 1, 1), 1);
        is(x.lock(3, 1, false), 1);
        is(x.told(3, 1, 1), 0);
    }

    @Says("An ENTRY is LOCKED, or no more: whether it was.")
    static void twiceLockedAndTwiceNot() {
        DitherDesk x = two();
        is(x.lock(3, 0, true), 0);
        is(x.lock(3, 0, true), 1);
        is(x.told(3, 0, 1), 1);
        is(x.lock(3, 0, false), 1);
        is(x.lock(3, 0, false), 0);
        is(x.told(3, 0, 1), 0);
    }

    @Says("An ENTRY is LOCKED, or no more")
    static void othersStay() {
        DitherDesk x = two();
        x.entry(2, 10);
        x.lock(3, 0, true);
        is(x.told(3, 1, 1), 0);
        is(x.told(2, 0, 1), 0);
        is(x.told(3, 0, 0), 10);
    }

    @Says("An ENTRY is LOCKED, or no more")
    static void theSixteenth() {
        DitherDesk x = new DitherDesk();
        for (int e = 0; e < 16; e++) {
            x.entry(0, e);
        }
        is(x.lock(0, 15, true), 0);
        is(x.told(0, 15, 1), 1);
        is(x.told(0, 14, 1), 0);
        is(x.lock(0, 16, true), NONE);
    }

    @Says("NONE (-1) no such number")
    static void noneIsAnEntryThatIsNotThere() {
        DitherDesk x = two();
        for (int entry : new int[] {-1, 2, 15, 16, MIN, MAX}) {
            is(x.lock(3, entry, true), NONE);
            is(x.lock(3, entry, false), NONE);
        }
        is(x.lock(0, 0, true), NONE);
        x.entry(3, 30);
        x.entry(0, 5);
        is(x.told(3, 2, 1), 0);
        is(x.told(0, 0, 1), 0);
    }

    @Says("NONE (-1) no such number")
    static void noneIsAPaletteBelowOrAbove() {
        DitherDesk x = two();
        for (int palette : new int[] {-1, 4, MIN, MAX}) {
            is(x.lock(palette, 0, true), NONE);
        }
        is(x.told(3, 0, 1), 0);
    }
}
