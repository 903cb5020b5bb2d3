/** Promise 13: drop. */
final class Promise13Test extends Promise {
    public static void main(String[] args) {
        runTestsOf(Promise13Test.class);
    }

    private static DitherDesk four() {
        DitherDesk x = new DitherDesk();
        Due.mix(x, 1, 10, 20, 30, 40);
        return x;
    }

    @Says("those behind it are one less: how many there are.")
    static void theFirst() {
        DitherDesk x = four();
        is(x.drop(1, 0), 3);
        entriesAre(x, 1, 20, 30, 40);
    }

    @Says("those behind it are one less: how many there are.")
    static void theLast() {
        DitherDesk x = four();
        is(x.drop(1, 3), 3);
        entriesAre(x, 1, 10, 20, 30);
    }

    @Says("those behind it are one less: how many there are.")
    static void theOnlyOne() {
        DitherDesk x = new DitherDesk();
        x.entry(1, 10);
        is(x.drop(1, 0), 0);
        is(x.count(1), 0);
        is(x.nearest(1, 0), NEVER);
    }

    @Says("(LOCKED ones, too)")
    static void aLockedOne() {
        DitherDesk x = four();
        x.lock(1, 1, true);
        is(x.drop(1, 1), 3);
        entriesAre(x, 1, 10, 30, 40);
    }

    @Says("those behind it are one less")
    static void theLocksGoAlong() {
        DitherDesk x = four();
        x.lock(1, 1, true);
        x.lock(1, 3, true);
        x.drop(1, 0);
        is(x.told(1, 0, 1), 1);
        is(x.told(1, 1, 1), 0);
        is(x.told(1, 2, 1), 1);
        x.drop(1, 0);
        is(x.told(1, 0, 1), 0);
        is(x.told(1, 1, 1), 1);
    }

    @Says("those behind it are one less: how many there are.")
    static void ofSixteen() {
        DitherDesk x = new DitherDesk();
        for (int e = 0; e < 16; e++) {
            x.entry(3, e);
        }
        is(x.drop(3, 0), 15);
        is(x.told(3, 0, 0), 1);
        is(x.told(3, 14, 0), 15);
        is(x.told(3, 15, 0), NONE);
        is(x.drop(3, 15), NONE);
        is(x.drop(3, 14), 14);
    }

    @Says("NONE: palette, entry.")
    static void noneIsAnEntryBelow0() {
        DitherDesk x = four();
        is(x.drop(1, -1), NONE);
        is(x.drop(1, MIN), NONE);
        entriesAre(x, 1, 10, 20, 30, 40);
    }

    @Says("NONE: palette, entry.")
    static void noneIsAnEntryFromHowManyThereAreOn() {
        DitherDesk x = four();
        is(x.drop(1, 4), NONE);
        is(x.drop(1, 15), NONE);
        is(x.drop(1, 16), NONE);
        is(x.drop(1, MAX), NONE);
        entriesAre(x, 1, 10, 20, 30, 40);
    }

    @Says("NONE: palette, entry.")
    static void noneIsAnyOfAnEmptyPalette() {
        DitherDesk x = four();
        is(x.drop(0, 0), NONE);
        is(x.drop(2, 0), NONE);
        is(x.count(1), 4);
    }

    @Says("NONE: palette, entry.")
    static void noneIsAPaletteBelowOrAbove() {
        DitherDesk x = four();
        is(x.drop(-1, 0), NONE);
        is(x.drop(4, 0), NONE);
        is(x.drop(MIN, 0), NONE);
        is(x.drop(MAX, 0), NONE);
        is(x.count(1), 4);
    }
}
