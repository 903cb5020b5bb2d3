/** Promise 32: fits. */
final class Promise32Test extends Promise {
    public static void main(String[] args) {
        runTestsOf(Promise32Test.class);
    }

    /** Red 7 everywhere: number m of screen 0 looks for 7.5 + strength * (m + 0.5 - 2) / 4, cut. */
    private static DitherDesk sevens() {
        DitherDesk x = new DitherDesk();
        x.picture(0, 2, 2);
        x.shade(0, red(7), red(7));
        for (int v = 0; v < 16; v++) {
            x.entry(0, red(v));
        }
        return x;
    }

    private static void fitsAre(DitherDesk x, int many, int least) {
        is(x.fits(0, 0, 0), many);
        is(x.fits(0, 0, 1), least);
    }

    @Says("how many STRENGTHS 0 .. 63 there are by which, MADE by SCREEN, all of SEEN were so")
    static void nothingIsSeenAllFit() {
        fitsAre(sevens(), 64, 0);
    }

    @Says("how many STRENGTHS 0 .. 63 there are")
    static void theLeastStrengthFits() {
        DitherDesk x = sevens();
        x.see(0, 0, 7); // 7.5 and 7.125
        fitsAre(x, 2, 0);
    }

    @Says("how many STRENGTHS 0 .. 63 there are")
    static void theGreatestStrengthFits() {
        DitherDesk x = new DitherDesk();
        x.picture(0, 2, 2);
        x.shade(0, red(7), red(7));
        Due.mix(x, 0, red(30), red(31));
        x.see(0, 1, 1); // 31.125 by 63, 30.75 by 62
        fitsAre(x, 1, 63);
    }

    @Says("all of SEEN were so")
    static void allSixOfThem() {
        DitherDesk x = sevens();
        x.see(0, 0, 1); // 15, 16, 17
        x.see(1, 0, 9); // 12 .. 19
        x.see(0, 1, 13); // 15, 16, 17
        x.see(1, 1, 5); // 13 .. 20
        x.see(0, 0, 1);
        fitsAre(x, 3, 15);
        x.see(1, 1, 6);
        fitsAre(x, 0, NEVER);
    }

    @Says("FITS: what 0 how many, 1 the least; -5.")
    static void noneFits() {
        DitherDesk x = sevens();
        x.see(0, 0, 8);
        fitsAre(x, 0, NEVER);
    }

    @Says("(a PIXEL that isn't there: not so)")
    static void aPixelBeyondTheRight() {
        DitherDesk x = sevens();
        x.see(2, 0, 7);
        fitsAre(x, 0, NEVER);
        x.see(-1, 0, 0);
        x.see(2, 1, 7);
        fitsAre(x, 0, NEVER);
        x.see(-1, 0, 0);
        x.see(2, 0, 0);
        fitsAre(x, 0, NEVER);
    }

    @Says("(a PIXEL that isn't there: not so)")
    static void aPixelBelow() {
        DitherDesk x = sevens();
        x.see(0, 2, 7);
        fitsAre(x, 0, NEVER);
        x.see(-1, 0, 0);
        x.see(0, 2, 0);
        fitsAre(x, 0, NEVER);
        x.see(-1, 0, 0);
        x.see(11, 11, 0);
        fitsAre(x, 0, NEVER);
    }

    @Says("(a PIXEL that isn't there: not so)")
    static void theLastPixelIsThere() {
        DitherDesk x = new DitherDesk();
        x.picture(0, 12, 12);
        x.entry(0, 0);
        x.see(11, 11, 0);
        fitsAre(x, 64, 0);
    }

    @Says("all of SEEN were so")
    static void anEntryThatIsNotThere() {
        DitherDesk x = new DitherDesk();
        x.picture(0, 2, 2);
        x.entry(0, 0);
        x.see(0, 0, 1);
        fitsAre(x, 0, NEVER);
        x.see(-1, 0, 0);
        x.see(0, 0, 15);
        fitsAre(x, 0, NEVER);
    }

    @Says("HELD is that, but 0.0f, if it is below")
    static void strengthsThatAreHeldAt0() {
        DitherDesk x = sevens();
        x.see(0, 0, 0); // below 1: 18 .. 63
        fitsAre(x, 46, 18);
    }

    @Says("MADE by SCREEN")
    static void byTheScreen() {
        DitherDesk x = sevens();
        x.rule(2, 2);
        x.see(1, 1, 3); // number 0 of 9: 3.944, 3.5, 3.056 by 8, 9, 10
        fitsAre(x, 3, 8);
    }

    @Says("NONE: picture, palette, what;")
    static void noneIsAMissingPicture() {
        DitherDesk x = sevens();
        for (int picture : new int[] {1, 2, 3, -1, 4, MIN, MAX}) {
            is(x.fits(picture, 0, 0), NONE);
        }
        x.picture(0, 0, 0);
        is(x.fits(0, 0, 0), NONE);
        is(x.count(6), 0);
    }

    @Says("NONE: picture, palette, what;")
    static void noneIsAPaletteBelowOrAbove() {
        DitherDesk x = sevens();
        for (int palette : new int[] {-1, 4, MIN, MAX}) {
            is(x.fits(0, palette, 0), NONE);
        }
        is(x.count(6), 0);
    }

    @Says("NONE: picture, palette, what;")
    static void noneIsAWhatBelowOrAbove() {
        DitherDesk x = sevens();
        for (int what : new int[] {-1, 2, MIN, MAX}) {
            is(x.fits(0, 0, what), NONE);
        }
        is(x.count(6), 0);
    }

    @Says("STATE: no ENTRIES; FULL: WORK.")
    static void stateIsAnEmptyPalette() {
        DitherDesk x = sevens();
        is(x.fits(0, 1, 0), STATE);
        is(x.fits(0, 3, 1), STATE);
        is(x.count(6), 0);
    }

    @Says("the first that a call's words name")
    static void noneThenStateThenFull() {
        DitherDesk x = worked(6000);
        is(x.fits(0, 0, 0), NONE);
        is(x.fits(3, 0, 2), NONE);
        is(x.fits(3, 0, 0), STATE);
        is(x.fits(3, 3, 0), FULL);
    }

    @Says("fits() 64")
    static void eachCounts64() {
        DitherDesk x = sevens();
        x.fits(0, 0, 0);
        is(x.count(6), 64);
        x.fits(0, 0, 1);
        is(x.count(6), 128);
    }

    @Says("(each of these whole, also where there is nothing to CUT, or the answer is -5")
    static void itCounts64WhereNoneFitsToo() {
        DitherDesk x = sevens();
        x.see(11, 11, 0);
        is(x.fits(0, 0, 1), NEVER);
        is(x.count(6), 64);
    }

    @Says("6000 in all: what would be more is FULL (and isn't counted)")
    static void workThatJustFits() {
        DitherDesk x = worked(5936);
        is(x.fits(3, 3, 0), 64);
        is(x.count(6), 6000);
    }

    @Says("6000 in all: what would be more is FULL (and isn't counted)")
    static void workThatIsOneTooMuch() {
        DitherDesk x = worked(5937);
        is(x.fits(3, 3, 0), FULL);
        is(x.count(6), 5937);
    }

    @Says("FULL is ahead of -5")
    static void fullIsAheadOfNever() {
        DitherDesk x = worked(6000);
        x.see(11, 11, 0);
        is(x.fits(3, 3, 1), FULL);
    }

    @Says("All that follows is asked, and changes nothing.")
    static void strengthAndTheSheetStay() {
        DitherDesk x = sevens();
        x.rule(3, 40);
        x.fits(0, 0, 0);
        is(x.sum(13), NO);
        x.make(0, 0, 0);
        x.fits(0, 0, 0);
        is(x.sum(13), 0);
        is(x.sheet(0, 0, 0), 7);
        is(x.rule(3, 0), 40);
        is(x.count(2), 0);
    }
}
