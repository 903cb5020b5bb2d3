/** Promise 20: refine. */
final class Promise20Test extends Promise {
    public static void main(String[] args) {
        runTestsOf(Promise20Test.class);
    }

    /** Picture 2 of red 0, 2, 10, 13. */
    private static DitherDesk four() {
        DitherDesk x = new DitherDesk();
        Due.row(x, 2, red(0), red(2), red(10), red(13));
        return x;
    }

    @Says("is REFINED by a PICTURE, n times (1 .. 20)")
    static void once() {
        DitherDesk x = four();
        Due.mix(x, 1, red(0), red(3));
        is(x.refine(1, 2, 1), 1);
        entriesAre(x, 1, red(0), red(8)); // 25 of 3
        is(x.count(6), 1);
    }

    @Says("is REFINED by a PICTURE, n times (1 .. 20)")
    static void twentyTimes() {
        DitherDesk x = four();
        Due.mix(x, 1, red(0), red(3));
        is(x.refine(1, 2, 20), 2);
        entriesAre(x, 1, red(1), red(12));
        is(x.count(6), 20);
    }

    @Says("or till no ENTRY changes: how many times one changed at least.")
    static void noneChanges() {
        DitherDesk x = four();
        Due.mix(x, 1, red(1), red(12));
        is(x.refine(1, 2, 1), 0);
        is(x.refine(1, 2, 20), 0);
        entriesAre(x, 1, red(1), red(12));
    }

    @Says("or till no ENTRY changes: how many times one changed at least.")
    static void asManyTimesAsTold() {
        DitherDesk x = four();
        Due.mix(x, 1, red(0), red(3));
        is(x.refine(1, 2, 2), 2);
        is(x.refine(1, 2, 1), 0);
    }

    @Says("NONE; BAD; STATE: no ENTRIES; FULL: WORK (n).")
    static void badIsNBelow1() {
        DitherDesk x = four();
        Due.mix(x, 1, red(0), red(3));
        is(x.refine(1, 2, 0), BAD);
        is(x.refine(1, 2, -1), BAD);
        is(x.refine(1, 2, MIN), BAD);
        entriesAre(x, 1, red(0), red(3));
        is(x.count(6), 0);
    }

    @Says("NONE; BAD; STATE: no ENTRIES; FULL: WORK (n).")
    static void badIsNAbove20() {
        DitherDesk x = four();
        Due.mix(x, 1, red(0), red(3));
        is(x.refine(1, 2, 21), BAD);
        is(x.refine(1, 2, MAX), BAD);
        entriesAre(x, 1, red(0), red(3));
        is(x.count(6), 0);
    }

    @Says("STATE: no ENTRIES;")
    static void stateIsAnEmptyPalette() {
        DitherDesk x = four();
        is(x.refine(1, 2, 1), STATE);
        is(x.refine(0, 2, 20), STATE);
        is(x.count(6), 0);
    }

    @Says("NONE; BAD; STATE: no ENTRIES; FULL: WORK (n).")
    static void noneIsAPaletteBelowOrAbove() {
        DitherDesk x = four();
        for (int palette : new int[] {-1, 4, MIN, MAX}) {
            is(x.refine(palette, 2, 1), NONE);
        }
        is(x.count(6), 0);
    }

    @Says("NONE; BAD; STATE: no ENTRIES; FULL: WORK (n).")
    static void noneIsAMissingPicture() {
        DitherDesk x = four();
        x.entry(1, 5);
        for (int picture : new int[] {0, 1, 3, -1, 4, MIN, MAX}) {
            is(x.refine(1, picture, 1), NONE);
        }
        x.picture(2, 0, 0);
        is(x.refine(1, 2, 1), NONE);
        entriesAre(x, 1, 5);
        is(x.count(6), 0);
    }

    @Says("the first that a call's words name")
    static void noneThenBadThenStateThenFull() {
        DitherDesk x = worked(6000);
        x.entry(1, 5);
        is(x.refine(4, 3, 0), NONE);
        is(x.refine(1, 0, 21), NONE);
        is(x.refine(0, 3, 0), BAD);
        is(x.refine(0, 3, 21), BAD);
        is(x.refine(0, 3, 1), STATE);
        is(x.refine(1, 3, 1), FULL);
    }

    @Says("refine() n (also if it ends earlier)")
    static void nIsCountedWhereItEndsEarlier() {
        DitherDesk x = four();
        Due.mix(x, 1, red(1), red(12));
        is(x.refine(1, 2, 13), 0);
        is(x.count(6), 13);
    }

    @Says("FULL: WORK (n).")
    static void nThatJustFits() {
        DitherDesk x = worked(5980);
        is(x.refine(3, 3, 20), 0);
        is(x.count(6), 6000);
    }

    @Says("FULL: WORK (n).")
    static void nThatIsOneTooMany() {
        DitherDesk x = worked(5981);
        x.paint(3, 0, 0, 9);
        is(x.refine(3, 3, 20), FULL);
        is(x.count(6), 5981);
        entriesAre(x, 3, 0);
        is(x.refine(3, 3, 19), 1);
        is(x.count(6), 6000);
    }

    @Says("each ENTRY that isn't LOCKED, and has some, becomes their mean")
    static void aLockedOneStays() {
        DitherDesk x = four();
        Due.mix(x, 1, red(0), red(9));
        x.lock(1, 1, true);
        is(x.refine(1, 2, 20), 1);
        entriesAre(x, 1, red(1), red(9));
    }

    @Says("each ENTRY that isn't LOCKED, and has some, becomes their mean")
    static void allLockedStay() {
        DitherDesk x = four();
        Due.mix(x, 1, red(4), red(9));
        x.lock(1, 0, true);
        x.lock(1, 1, true);
        is(x.refine(1, 2, 20), 0);
        entriesAre(x, 1, red(4), red(9));
    }

    @Says("each ENTRY that isn't LOCKED, and has some, becomes their mean")
    static void oneWithoutPixelsStays() {
        DitherDesk x = four();
        Due.mix(x, 1, red(5), red(60));
        is(x.refine(1, 2, 20), 1);
        entriesAre(x, 1, red(6), red(60));
    }

    @Says("becomes their mean (as MEAN")
    static void halvesUp() {
        DitherDesk x = new DitherDesk();
        Due.row(x, 2, Due.rgb(10, 20, 62), Due.rgb(11, 21, 63));
        Due.mix(x, 1, 0);
        is(x.refine(1, 2, 1), 1);
        entriesAre(x, 1, Due.rgb(11, 21, 63));
    }

    @Says("each PIXEL goes to its NEAREST")
    static void ofLikeOnesToTheLeast() {
        DitherDesk x = new DitherDesk();
        Due.row(x, 2, red(10), red(20), red(30));
        Due.mix(x, 1, red(30), red(10));
        is(x.refine(1, 2, 1), 1);
        entriesAre(x, 1, red(25), red(10));
    }

    @Says("all means are told first")
    static void allMeansAreToldFirst() {
        // by the entries as they were 0, 4, 5 go to the first: it becomes 3, and 5 would be nearer to the other
        DitherDesk x = new DitherDesk();
        Due.row(x, 2, red(0), red(4), red(5), red(9));
        Due.mix(x, 1, red(2), red(8));
        is(x.refine(1, 2, 1), 1);
        entriesAre(x, 1, red(3), red(9));
    }

    @Says("but one stays as it is, if another ENTRY has that COLOUR by then")
    static void anotherOneHasThatColour() {
        DitherDesk x = new DitherDesk();
        Due.row(x, 2, Due.rgb(10, 11, 0), Due.rgb(11, 10, 0));
        Due.mix(x, 1, Due.rgb(10, 10, 0), Due.rgb(11, 11, 0));
        is(x.refine(1, 2, 5), 0);
        entriesAre(x, 1, Due.rgb(10, 10, 0), Due.rgb(11, 11, 0));
    }

    @Says("(those ahead having become what they do)")
    static void oneAheadHasLeftThatColour() {
        DitherDesk x = new DitherDesk();
        x.rule(0, 3);
        // by STREETS (3, 0, 0) and its like are 3 from (0, 0, 0), 4 from (1, 1, 1): their mean is (1, 1, 1)
        Due.row(x, 2, red(3), green(3), 3, grey(9));
        Due.mix(x, 1, grey(1), 0);
        is(x.refine(1, 2, 1), 1);
        entriesAre(x, 1, grey(9), grey(1));
    }

    @Says("(those ahead having become what they do)")
    static void oneBehindHasNotLeftItYet() {
        DitherDesk x = new DitherDesk();
        x.rule(0, 3);
        Due.row(x, 2, red(3), green(3), 3, grey(9));
        Due.mix(x, 1, 0, grey(1));
        is(x.refine(1, 2, 1), 1);
        entriesAre(x, 1, 0, grey(9));
    }

    @Says("each ENTRY that isn't LOCKED, and has some, becomes their mean")
    static void sixteenEntriesByTheGreatestPicture() {
        DitherDesk x = new DitherDesk();
        x.picture(0, 12, 12);
        for (int p = 0; p < 144; p++) {
            x.paint(0, p % 12, p / 12, red(4 * (p % 16) + (p < 48 ? 2 : 1)));
        }
        for (int e = 0; e < 16; e++) {
            x.entry(0, red(4 * e));
        }
        is(x.refine(0, 0, 20), 1);
        // to each go 3 that are 2 more (as near to the next: of like ones the least) and 6 that are 1 more
        for (int e = 0; e < 16; e++) {
            is(x.told(0, e, 0), red(4 * e + 1));
        }
    }

    @Says("REFINED by a PICTURE")
    static void thePictureStays() {
        DitherDesk x = four();
        Due.mix(x, 1, red(0), red(3));
        x.refine(1, 2, 20);
        pixelsAre(x, 2, red(0), red(2), red(10), red(13));
    }
}
