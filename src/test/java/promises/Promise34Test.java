/** Promise 34: spared. */
final class Promise34Test extends Promise {
    public static void main(String[] args) {
        runTestsOf(Promise34Test.class);
    }

    /** Red 0, 10, 60 by the entries 60, 10, 0. */
    private static DitherDesk three() {
        DitherDesk x = new DitherDesk();
        Due.row(x, 0, red(0), red(10), red(60));
        Due.mix(x, 0, red(60), red(10), red(0));
        return x;
    }

    private static void sparedIs(DitherDesk x, int entry, int error) {
        is(x.spared(0, 0, 0), entry);
        is(x.spared(0, 0, 1), error);
    }

    @Says("without which ERROR on all CHANNELS, MADE by PLAIN, would be least; of like ones the least")
    static void ofLikeOnesTheLeast() {
        sparedIs(three(), 1, 100);
    }

    @Says("SPARED: the ENTRY, not LOCKED")
    static void notALockedOne() {
        DitherDesk x = three();
        x.lock(0, 1, true);
        sparedIs(x, 2, 100);
        x.lock(0, 2, true);
        sparedIs(x, 0, 2500);
    }

    @Says("(-5: fewer than two ENTRIES, or all LOCKED)")
    static void neverIfAllAreLocked() {
        DitherDesk x = three();
        for (int e = 0; e < 3; e++) {
            x.lock(0, e, true);
        }
        sparedIs(x, NEVER, NEVER);
    }

    @Says("(-5: fewer than two ENTRIES, or all LOCKED)")
    static void neverOfOneEntry() {
        DitherDesk x = new DitherDesk();
        x.picture(0, 2, 2);
        x.entry(0, 5);
        sparedIs(x, NEVER, NEVER);
    }

    @Says("(-5: fewer than two ENTRIES, or all LOCKED)")
    static void neverOfAnEmptyPalette() {
        DitherDesk x = new DitherDesk();
        x.picture(0, 2, 2);
        sparedIs(x, NEVER, NEVER);
    }

    @Says("(-5: fewer than two ENTRIES, or all LOCKED)")
    static void twoEntriesAreEnough() {
        DitherDesk x = new DitherDesk();
        Due.row(x, 0, 0, 0);
        Due.mix(x, 0, 0, 1);
        sparedIs(x, 1, 0);
        x.lock(0, 1, true);
        sparedIs(x, 0, 2);
    }

    @Says("SPARED: the ENTRY, not LOCKED, without which ERROR on all CHANNELS")
    static void theSixteenth() {
        DitherDesk x = new DitherDesk();
        x.picture(0, 5, 3);
        for (int e = 0; e < 16; e++) {
            x.entry(0, red(4 * e));
            x.paint(0, e % 5, e / 5, red(4 * e));
        }
        sparedIs(x, 15, 0); // 60 is not in the picture
    }

    @Says("SPARED: what 0 the ENTRY, 1 ERROR then; -5.")
    static void theMostThatCanBeOff() {
        DitherDesk x = new DitherDesk();
        x.picture(0, 12, 12);
        x.shade(0, WHITE, WHITE);
        Due.mix(x, 0, WHITE, 0);
        x.lock(0, 1, true);
        sparedIs(x, 0, 1714608);
    }

    @Says("ERROR on all CHANNELS, MADE by PLAIN")
    static void nearestByTheMetricErrorBySquares() {
        DitherDesk x = new DitherDesk();
        x.rule(0, 2);
        Due.row(x, 0, 0);
        Due.mix(x, 0, 0, grey(6), red(7));
        x.lock(0, 1, true);
        x.lock(0, 2, true);
        sparedIs(x, 0, 108);
    }

    @Says("NONE: picture, palette, what; FULL: WORK.")
    static void noneIsAMissingPicture() {
        DitherDesk x = three();
        for (int picture : new int[] {1, 2, 3, -1, 4, MIN, MAX}) {
            is(x.spared(picture, 0, 0), NONE);
        }
        x.picture(0, 0, 0);
        is(x.spared(0, 0, 0), NONE);
        is(x.count(6), 0);
    }

    @Says("NONE: picture, palette, what; FULL: WORK.")
    static void noneIsAPaletteBelowOrAbove() {
        DitherDesk x = three();
        for (int palette : new int[] {-1, 4, MIN, MAX}) {
            is(x.spared(0, palette, 0), NONE);
        }
        is(x.count(6), 0);
    }

    @Says("NONE: picture, palette, what; FULL: WORK.")
    static void noneIsAWhatBelowOrAbove() {
        DitherDesk x = three();
        for (int what : new int[] {-1, 2, MIN, MAX}) {
            is(x.spared(0, 0, what), NONE);
            is(x.spared(0, 1, what), NONE);
        }
        is(x.count(6), 0);
    }

    @Says("spared() 17")
    static void eachCounts17() {
        DitherDesk x = three();
        x.spared(0, 0, 0);
        is(x.count(6), 17);
        x.spared(0, 0, 1);
        is(x.count(6), 34);
    }

    @Says("(each of these whole, also where there is nothing to CUT, or the answer is -5")
    static void itCounts17WhereNoneCanBeSparedToo() {
        DitherDesk x = three();
        is(x.spared(0, 1, 0), NEVER);
        is(x.count(6), 17);
    }

    @Says("6000 in all: what would be more is FULL (and isn't counted)")
    static void workThatJustFits() {
        DitherDesk x = worked(5983);
        x.entry(3, 9);
        is(x.spared(3, 3, 0), 1);
        is(x.count(6), 6000);
    }

    @Says("6000 in all: what would be more is FULL (and isn't counted)")
    static void workThatIsOneTooMuch() {
        DitherDesk x = worked(5984);
        x.entry(3, 9);
        is(x.spared(3, 3, 0), FULL);
        is(x.count(6), 5984);
    }

    @Says("FULL is ahead of -5")
    static void fullIsAheadOfNever() {
        DitherDesk x = worked(6000);
        is(x.spared(3, 0, 0), FULL);
        is(x.spared(3, 3, 1), FULL);
    }

    @Says("the first that a call's words name")
    static void noneIsAheadOfFull() {
        DitherDesk x = worked(6000);
        is(x.spared(0, 3, 0), NONE);
        is(x.spared(3, 4, 0), NONE);
        is(x.spared(3, 3, 2), NONE);
    }

    @Says("All that follows is asked, and changes nothing.")
    static void paletteAndSheetStay() {
        DitherDesk x = three();
        x.spared(0, 0, 0);
        is(x.sum(13), NO);
        entriesAre(x, 0, red(60), red(10), red(0));
        x.make(0, 0, 1);
        x.spared(0, 0, 0);
        is(x.sum(13), 1);
        sheetIs(x, 2, 1, 0);
    }
}
