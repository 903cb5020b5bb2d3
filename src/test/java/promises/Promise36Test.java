/** Promise 36: ends. */
final class Promise36Test extends Promise {
    public static void main(String[] args) {
        runTestsOf(Promise36Test.class);
    }

    /** Red 20, 20 by the entries 0 and 32. */
    private static DitherDesk twenties() {
        DitherDesk x = new DitherDesk();
        Due.row(x, 0, red(20), red(20));
        Due.mix(x, 0, 0, red(32));
        return x;
    }

    private static void endsAre(DitherDesk x, int error, int blocks) {
        is(x.ends(0), error);
        is(x.ends(1), blocks);
    }

    @Says("ENDS: ERROR on all CHANNELS, and BLOCKS, of PICTURE 0 MADE by PALETTE 0")
    static void byAnEmptyPlan() {
        endsAre(twenties(), 288, 576);
    }

    @Says("MADE by PALETTE 0, by SPREAD")
    static void bySpread() {
        DitherDesk x = twenties();
        x.rule(1, 1);
        endsAre(x, 544, 64); // 12 and -20
    }

    @Says("by SPREAD (-5: that can't be).")
    static void neverWithoutPicture0() {
        DitherDesk x = new DitherDesk();
        x.entry(0, 0);
        x.picture(1, 2, 2);
        endsAre(x, NEVER, NEVER);
    }

    @Says("by 0 nothing goes, if PICTURE 0 is missing")
    static void neverWithoutPicture0ByAPlanToo() {
        DitherDesk x = new DitherDesk();
        x.entry(0, 0);
        x.plan(0, 0);
        x.plan(0, 3);
        endsAre(x, NEVER, NEVER);
        entriesAre(x, 0, 0);
    }

    @Says("by SPREAD (-5: that can't be).")
    static void neverWithoutEntries() {
        DitherDesk x = new DitherDesk();
        x.picture(0, 2, 2);
        x.entry(1, 0);
        endsAre(x, NEVER, NEVER);
    }

    @Says("by SPREAD (-5: that can't be).")
    static void neverIfAllEntriesGo() {
        DitherDesk x = twenties();
        x.plan(3, 1);
        x.plan(3, 0);
        endsAre(x, NEVER, NEVER);
        is(x.count(1), 2);
    }

    @Says("1 THE METRIC is n")
    static void theGreatestMetric() {
        DitherDesk x = new DitherDesk();
        Due.row(x, 0, 0);
        Due.mix(x, 0, grey(3), red(8));
        x.plan(1, 3); // 9 and 8
        endsAre(x, 64, 64);
        is(x.rule(0, 0), 0);
        x.plan(1, 0); // 27 and 64
        endsAre(x, 27, 27);
    }

    @Says("2 THE KERNEL is n")
    static void theGreatestKernel() {
        DitherDesk x = twenties();
        x.plan(2, 4); // -12 by 2: 14 goes to 0
        endsAre(x, 544, 64);
        is(x.rule(1, 0), 0);
        x.plan(2, 0);
        endsAre(x, 288, 576);
    }

    @Says("3 ENTRY n of PALETTE 0 goes, if there is such a one, not LOCKED")
    static void anEntryThatIsNotThereDoesNotGo() {
        DitherDesk x = twenties();
        x.plan(3, 2);
        x.plan(3, 15);
        endsAre(x, 288, 576);
    }

    @Says("3 ENTRY n of PALETTE 0 goes, if there is such a one, not LOCKED")
    static void aLockedOneDoesNotGo() {
        DitherDesk x = twenties();
        x.lock(0, 1, true);
        x.plan(3, 1);
        endsAre(x, 288, 576);
        x.lock(0, 1, false);
        endsAre(x, 800, 1600);
    }

    @Says("3 ENTRY n of PALETTE 0 goes, if there is such a one, not LOCKED")
    static void thoseBehindAreOneLess() {
        DitherDesk x = twenties();
        x.lock(0, 1, true);
        x.plan(3, 0);
        x.plan(3, 0);
        endsAre(x, 288, 576);
        is(x.count(1), 2);
    }

    @Says("3 ENTRY n of PALETTE 0 goes")
    static void theSixteenthGoes() {
        DitherDesk x = new DitherDesk();
        Due.row(x, 0, red(60));
        for (int e = 0; e < 16; e++) {
            x.entry(0, red(4 * e));
        }
        endsAre(x, 0, 0);
        x.plan(3, 15);
        endsAre(x, 16, 16);
        x.plan(3, 15);
        endsAre(x, 16, 16);
    }

    @Says("8 rows at most")
    static void allEightRowsGo() {
        DitherDesk x = new DitherDesk();
        Due.row(x, 0, red(7));
        for (int e = 0; e < 9; e++) {
            x.entry(0, red(e));
        }
        for (int row = 0; row < 8; row++) {
            endsAre(x, 0, 0);
            x.plan(3, 0);
        }
        endsAre(x, 1, 1);
    }

    @Says("0 PALETTE n is REFINED by PICTURE 0 once")
    static void refinedOnce() {
        DitherDesk x = new DitherDesk();
        Due.row(x, 0, red(0), red(2), red(10), red(13));
        Due.mix(x, 0, red(0), red(3));
        x.plan(0, 0);
        is(x.ends(0), 33); // 0 and 8
        x.plan(0, 0);
        is(x.ends(0), 7); // 1 and 12
        x.plan(0, 0);
        is(x.ends(0), 7);
        entriesAre(x, 0, red(0), red(3));
    }

    @Says("0 PALETTE n is REFINED by PICTURE 0 once")
    static void anotherPaletteOrAnEmptyOne() {
        DitherDesk x = twenties();
        x.entry(1, 0);
        x.plan(0, 1);
        x.plan(0, 3);
        endsAre(x, 288, 576);
        entriesAre(x, 1, 0);
        is(x.count(1), 3);
    }

    @Says("0 PALETTE n is REFINED by PICTURE 0 once, 1 THE METRIC is n")
    static void byTheMetricOfTheRowsAhead() {
        DitherDesk x = new DitherDesk();
        Due.row(x, 0, 0, green(3), red(4));
        Due.mix(x, 0, 0, Due.rgb(4, 3, 0));
        x.plan(1, 1);
        x.plan(0, 0);
        is(x.ends(0), 8); // (2, 0, 0) and (0, 3, 0)
        x.plan(-1, 0);
        x.plan(0, 0);
        x.plan(1, 1);
        is(x.ends(0), 5); // (0, 2, 0) and (4, 0, 0)
    }

    @Says("ENDS: what 0 ERROR, 1 BLOCKS; -5.")
    static void nothingIsOffAndTheMostThatCanBe() {
        DitherDesk x = new DitherDesk();
        x.picture(0, 12, 12);
        x.entry(0, 0);
        endsAre(x, 0, 0);
        x.shade(0, WHITE, WHITE);
        endsAre(x, 1714608, 6858432);
    }

    @Says("NONE: what; FULL: WORK.")
    static void noneIsAWhatBelowOrAbove() {
        DitherDesk x = twenties();
        is(x.ends(-1), NONE);
        is(x.ends(2), NONE);
        is(x.ends(MIN), NONE);
        is(x.ends(MAX), NONE);
        is(x.count(6), 0);
    }

    @Says("ends() 1")
    static void eachCounts1() {
        DitherDesk x = twenties();
        x.plan(0, 0);
        x.plan(0, 0);
        x.ends(0);
        is(x.count(6), 1);
        x.ends(1);
        is(x.count(6), 2);
    }

    @Says("(each of these whole, also where there is nothing to CUT, or the answer is -5")
    static void itCounts1WhereItCannotBeToo() {
        DitherDesk x = new DitherDesk();
        is(x.ends(0), NEVER);
        is(x.count(6), 1);
    }

    @Says("6000 in all: what would be more is FULL (and isn't counted)")
    static void theLastWorkAndOneMore() {
        DitherDesk x = worked(5999);
        x.picture(0, 1, 1);
        x.entry(0, 0);
        is(x.ends(0), 0);
        is(x.count(6), 6000);
        is(x.ends(0), FULL);
        is(x.count(6), 6000);
    }

    @Says("FULL is ahead of -5")
    static void fullIsAheadOfNever() {
        DitherDesk x = worked(6000);
        is(x.ends(0), FULL);
        is(x.ends(1), FULL);
    }

    @Says("the first that a call's words name")
    static void noneIsAheadOfFull() {
        DitherDesk x = worked(6000);
        is(x.ends(2), NONE);
        is(x.ends(-1), NONE);
    }

    @Says("All that follows is asked, and changes nothing.")
    static void allStays() {
        DitherDesk x = twenties();
        x.make(0, 0, 0);
        x.plan(0, 0);
        x.plan(1, 3);
        x.plan(2, 4);
        x.plan(3, 0);
        x.ends(0);
        entriesAre(x, 0, 0, red(32));
        pixelsAre(x, 0, red(20), red(20));
        is(x.sum(13), 0);
        sheetIs(x, 1, 1);
        is(x.rule(0, 0), 0);
        is(x.rule(1, 0), 0);
        is(x.count(3), 4);
    }
}
