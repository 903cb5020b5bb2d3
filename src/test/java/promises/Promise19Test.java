/** Promise 19: cut. */
final class Promise19Test extends Promise {
    public static void main(String[] args) {
        runTestsOf(Promise19Test.class);
    }

    /** Picture 1 of red 63, 0, 20, 10: one box has the mean 23, two 5 and 42. */
    private static DitherDesk four() {
        DitherDesk x = new DitherDesk();
        Due.row(x, 1, red(63), red(0), red(20), red(10));
        return x;
    }

    private static void lockAll(DitherDesk x, int palette, int many) {
        for (int e = 0; e < many; e++) {
            x.lock(palette, e, true);
        }
    }

    @Says("CUT from a PICTURE to n (1 .. 16)")
    static void toOne() {
        DitherDesk x = four();
        is(x.cut(2, 1, 1), 1);
        entriesAre(x, 2, red(23)); // 93 of 4
    }

    @Says("CUT from a PICTURE to n (1 .. 16)")
    static void toSixteenOfFourColours() {
        DitherDesk x = four();
        is(x.cut(2, 1, 16), 4);
        entriesAre(x, 2, red(0), red(10), red(20), red(63));
    }

    @Says("CUT from a PICTURE to n (1 .. 16)")
    static void toSixteenOfSixteenColours() {
        DitherDesk x = new DitherDesk();
        x.picture(0, 4, 4);
        for (int p = 0; p < 16; p++) {
            x.paint(0, p % 4, p / 4, 60 - 3 * p);
        }
        is(x.cut(0, 0, 16), 16);
        for (int e = 0; e < 16; e++) {
            is(x.told(0, e, 0), 15 + 3 * e);
        }
    }

    @Says("how many ENTRIES it has. NONE: palette, picture; BAD; FULL: WORK.")
    static void badIsNBelow1() {
        DitherDesk x = four();
        x.entry(2, 5);
        is(x.cut(2, 1, 0), BAD);
        is(x.cut(2, 1, -1), BAD);
        is(x.cut(2, 1, MIN), BAD);
        entriesAre(x, 2, 5);
        is(x.count(6), 0);
    }

    @Says("how many ENTRIES it has. NONE: palette, picture; BAD; FULL: WORK.")
    static void badIsNAbove16() {
        DitherDesk x = four();
        x.entry(2, 5);
        is(x.cut(2, 1, 17), BAD);
        is(x.cut(2, 1, MAX), BAD);
        entriesAre(x, 2, 5);
        is(x.count(6), 0);
    }

    @Says("NONE: palette, picture;")
    static void noneIsAPaletteBelowOrAbove() {
        DitherDesk x = four();
        for (int palette : new int[] {-1, 4, MIN, MAX}) {
            is(x.cut(palette, 1, 1), NONE);
            is(x.cut(palette, 1, 0), NONE);
        }
        is(x.count(1), 0);
        is(x.count(6), 0);
    }

    @Says("NONE: palette, picture;")
    static void noneIsAMissingPicture() {
        DitherDesk x = four();
        x.entry(2, 5);
        for (int picture : new int[] {0, 2, 3, -1, 4, MIN, MAX}) {
            is(x.cut(2, picture, 1), NONE);
            is(x.cut(2, picture, 17), NONE);
        }
        entriesAre(x, 2, 5);
        is(x.count(6), 0);
    }

    @Says("its LOCKED ones stay, in order")
    static void lockedOnesStayAndOthersGo() {
        DitherDesk x = four();
        Due.mix(x, 2, 1, 2, 3, 4);
        x.lock(2, 3, true);
        x.lock(2, 1, true);
        is(x.cut(2, 1, 3), 3);
        entriesAre(x, 2, 2, 4, red(23));
        is(x.told(2, 0, 1), 1);
        is(x.told(2, 1, 1), 1);
        is(x.told(2, 2, 1), 0);
    }

    @Says("its LOCKED ones stay, in order")
    static void withoutLockedOnesAllGo() {
        DitherDesk x = four();
        Due.mix(x, 2, 1, 2, 3, 4);
        is(x.cut(2, 1, 2), 2);
        entriesAre(x, 2, red(5), red(42));
        is(x.told(2, 0, 1), 0);
        is(x.told(2, 1, 1), 0);
    }

    @Says("then, if these are fewer than n, MEANS of BOXES come")
    static void asManyLockedAsN() {
        DitherDesk x = four();
        Due.mix(x, 2, 1, 2, 3);
        lockAll(x, 2, 2);
        is(x.cut(2, 1, 2), 2);
        entriesAre(x, 2, 1, 2);
    }

    @Says("then, if these are fewer than n, MEANS of BOXES come")
    static void moreLockedThanN() {
        DitherDesk x = four();
        Due.mix(x, 2, 1, 2, 3);
        lockAll(x, 2, 3);
        is(x.cut(2, 1, 1), 3);
        entriesAre(x, 2, 1, 2, 3);
    }

    @Says("then, if these are fewer than n, MEANS of BOXES come")
    static void sixteenLocked() {
        DitherDesk x = four();
        for (int e = 0; e < 16; e++) {
            x.entry(2, e);
        }
        lockAll(x, 2, 16);
        is(x.cut(2, 1, 16), 16);
        is(x.told(2, 15, 0), 15);
        is(x.told(2, 15, 1), 1);
    }

    @Says("the PICTURE being CUT into n less these")
    static void oneFewerLockedThanN() {
        DitherDesk x = four();
        Due.mix(x, 2, 1, 2, 3);
        lockAll(x, 2, 2);
        is(x.cut(2, 1, 3), 3);
        entriesAre(x, 2, 1, 2, red(23));
    }

    @Says("the PICTURE being CUT into n less these, but those that are there already.")
    static void aMeanThatIsLockedDoesNotComeAgain() {
        DitherDesk x = four();
        Due.mix(x, 2, red(42));
        lockAll(x, 2, 1);
        is(x.cut(2, 1, 3), 2);
        entriesAre(x, 2, red(42), red(5));
        is(x.told(2, 0, 1), 1);
    }

    @Says("the PICTURE being CUT into n less these, but those that are there already.")
    static void likeMeansComeOnce() {
        // by red (0, 5, 0), (1, 4, 0), that are half, and (1, 5, 0): the first mean is of halves, (1, 5, 0)
        DitherDesk x = new DitherDesk();
        Due.row(x, 1, Due.rgb(0, 5, 0), Due.rgb(1, 4, 0), Due.rgb(1, 5, 0), Due.rgb(1, 5, 0));
        is(x.cut(2, 1, 2), 1);
        entriesAre(x, 2, Due.rgb(1, 5, 0));
    }

    @Says("the PICTURE being CUT into n less these, but those that are there already.")
    static void noneComesIfAllMeansAreLocked() {
        DitherDesk x = four();
        Due.mix(x, 2, red(42), red(5));
        lockAll(x, 2, 2);
        is(x.cut(2, 1, 4), 2);
        entriesAre(x, 2, red(42), red(5));
    }

    @Says("(each of these whole, also where there is nothing to CUT")
    static void itCounts1WhereNothingIsCutToo() {
        DitherDesk x = four();
        x.entry(2, 1);
        lockAll(x, 2, 1);
        is(x.cut(2, 1, 1), 1);
        is(x.count(6), 1);
        is(x.cut(2, 1, 16), 5);
        is(x.count(6), 2);
    }

    @Says("6000 in all: what would be more is FULL (and isn't counted)")
    static void theLastWorkAndOneMore() {
        DitherDesk x = worked(5999);
        is(x.cut(0, 3, 1), 1);
        is(x.count(6), 6000);
        is(x.cut(0, 3, 1), FULL);
        is(x.count(6), 6000);
    }

    @Says("What is answered so changes nothing.")
    static void byFullThePaletteStays() {
        DitherDesk x = worked(6000);
        Due.mix(x, 0, 5, 6);
        is(x.cut(0, 3, 16), FULL);
        entriesAre(x, 0, 5, 6);
    }

    @Says("(each of these whole, also where there is nothing to CUT")
    static void fullWhereNothingIsCutToo() {
        DitherDesk x = worked(6000);
        x.entry(0, 5);
        lockAll(x, 0, 1);
        is(x.cut(0, 3, 1), FULL);
    }

    @Says("behind all else that a call's words name")
    static void noneAndBadAreAheadOfFull() {
        DitherDesk x = worked(6000);
        is(x.cut(4, 3, 1), NONE);
        is(x.cut(0, 0, 1), NONE);
        is(x.cut(0, 3, 0), BAD);
        is(x.cut(0, 3, 17), BAD);
    }

    @Says("A PALETTE is CUT from a PICTURE")
    static void thePictureStays() {
        DitherDesk x = four();
        x.cut(2, 1, 4);
        pixelsAre(x, 1, red(63), red(0), red(20), red(10));
    }
}
