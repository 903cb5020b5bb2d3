/** Promise 26: sheet. */
final class Promise26Test extends Promise {
    public static void main(String[] args) {
        runTestsOf(Promise26Test.class);
    }

    /** Red 0, 10, 20 by the entries 19 and 2: 1, 1, 0 in both rows. */
    private static DitherDesk made() {
        DitherDesk x = new DitherDesk();
        x.picture(0, 3, 2);
        x.shade(0, red(0), red(20));
        Due.mix(x, 0, red(19), red(2));
        is(x.make(0, 0, 0), 2);
        return x;
    }

    @Says("Of a PIXEL of THE SHEET what 0 its ENTRY, 1 that one's COLOUR, 2 the PICTURE's.")
    static void theFirstAndTheLast() {
        DitherDesk x = made();
        is(x.sheet(0, 0, 0), 1);
        is(x.sheet(0, 0, 1), red(2));
        is(x.sheet(0, 0, 2), red(0));
        is(x.sheet(2, 1, 0), 0);
        is(x.sheet(2, 1, 1), red(19));
        is(x.sheet(2, 1, 2), red(20));
    }

    @Says("Of a PIXEL of THE SHEET")
    static void theLastOfTheGreatest() {
        DitherDesk x = new DitherDesk();
        x.picture(0, 12, 12);
        x.paint(0, 11, 11, WHITE);
        Due.mix(x, 0, 0, WHITE);
        x.make(0, 0, 0);
        is(x.sheet(11, 11, 0), 1);
        is(x.sheet(11, 11, 1), WHITE);
        is(x.sheet(11, 11, 2), WHITE);
        is(x.sheet(12, 11, 0), BAD);
        is(x.sheet(11, 12, 0), BAD);
    }

    @Says("NONE: what; STATE: none is MADE; BAD: x, y.")
    static void noneIsAWhatBelowOrAbove() {
        DitherDesk x = made();
        is(x.sheet(0, 0, -1), NONE);
        is(x.sheet(0, 0, 3), NONE);
        is(x.sheet(0, 0, MIN), NONE);
        is(x.sheet(0, 0, MAX), NONE);
    }

    @Says("NONE: what; STATE: none is MADE; BAD: x, y.")
    static void stateWithoutASheet() {
        DitherDesk x = new DitherDesk();
        is(x.sheet(0, 0, 0), STATE);
        x.picture(0, 2, 2);
        x.entry(0, 0);
        is(x.sheet(0, 0, 0), STATE);
        x.best(0, 0, 0);
        x.fits(0, 0, 0);
        x.ends(0);
        is(x.sheet(0, 0, 0), STATE);
    }

    @Says("NONE: what; STATE: none is MADE; BAD: x, y.")
    static void noneIsAheadOfStateAheadOfBad() {
        DitherDesk x = new DitherDesk();
        is(x.sheet(0, 0, 3), NONE);
        is(x.sheet(-1, 0, 0), STATE);
        is(x.sheet(0, 99, 2), STATE);
        DitherDesk y = made();
        is(y.sheet(9, 9, 3), NONE);
    }

    @Says("BAD: x, y.")
    static void badIsXBelow0() {
        DitherDesk x = made();
        is(x.sheet(-1, 0, 0), BAD);
        is(x.sheet(-1, 1, 0), BAD);
        is(x.sheet(MIN, 0, 0), BAD);
    }

    @Says("BAD: x, y.")
    static void badIsXFromWideOn() {
        DitherDesk x = made();
        is(x.sheet(3, 0, 0), BAD);
        is(x.sheet(11, 0, 0), BAD);
        is(x.sheet(MAX, 0, 0), BAD);
    }

    @Says("BAD: x, y.")
    static void badIsYBelow0() {
        DitherDesk x = made();
        is(x.sheet(0, -1, 0), BAD);
        is(x.sheet(2, -1, 0), BAD);
        is(x.sheet(0, MIN, 0), BAD);
    }

    @Says("BAD: x, y.")
    static void badIsYFromHighOn() {
        DitherDesk x = made();
        is(x.sheet(0, 2, 0), BAD);
        is(x.sheet(0, 11, 0), BAD);
        is(x.sheet(0, MAX, 0), BAD);
    }

    @Says("BAD: x, y.")
    static void badByTheSheetNotByThePicture() {
        DitherDesk x = made();
        x.picture(0, 12, 12);
        is(x.sheet(3, 0, 0), BAD);
        x.picture(0, 1, 1);
        is(x.sheet(2, 1, 0), 0);
    }

    @Says("all as they were then.")
    static void aPictureThatIsPaintedOrGoes() {
        DitherDesk x = made();
        x.paint(0, 2, 1, 88);
        is(x.sheet(2, 1, 2), red(20));
        x.picture(0, 0, 0);
        is(x.sheet(2, 1, 2), red(20));
        is(x.sheet(2, 1, 0), 0);
    }

    @Says("all as they were then.")
    static void entriesThatChangeOrGo() {
        DitherDesk x = made();
        x.change(0, 0, 77);
        is(x.sheet(2, 1, 1), red(19));
        x.drop(0, 0);
        x.drop(0, 0);
        is(x.sheet(2, 1, 0), 0);
        is(x.sheet(0, 0, 0), 1);
        is(x.sheet(0, 0, 1), red(2));
    }

    @Says("all as they were then.")
    static void rulesThatChange() {
        DitherDesk x = made();
        x.rule(0, 3);
        x.rule(1, 4);
        x.rule(2, 2);
        x.rule(3, 63);
        sheetIs(x, 1, 1, 0, 1, 1, 0);
    }

    @Says("THE SHEET is MADE from a PICTURE")
    static void aSmallerOneAfterAGreaterOne() {
        DitherDesk x = new DitherDesk();
        x.picture(1, 12, 12);
        x.shade(1, WHITE, WHITE);
        x.entry(0, WHITE);
        x.make(1, 0, 0);
        x.picture(2, 2, 1);
        x.entry(1, 0);
        x.make(2, 1, 0);
        sheetIs(x, 0, 0);
        is(x.sheet(2, 0, 0), BAD);
        is(x.sheet(0, 1, 0), BAD);
    }
}
