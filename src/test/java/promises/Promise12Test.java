/** Promise 12: entry. */
final class Promise12Test extends Promise {
    public static void main(String[] args) {
        runTestsOf(Promise12Test.class);
    }

    private static DitherDesk sixteen() {
        DitherDesk x = new DitherDesk();
        for (int e = 0; e < 16; e++) {
            is(x.entry(2, 100 + e), e);
        }
        return x;
    }

    @Says("PALETTES 0 .. 3 have ENTRIES 0, 1, .. (16 at most; none at first)")
    static void theFirstIs0AndTheSixteenth15() {
        DitherDesk x = sixteen();
        is(x.count(1), 16);
        is(x.told(2, 0, 0), 100);
        is(x.told(2, 15, 0), 115);
    }

    @Says("FULL: 16.")
    static void theSeventeenthIsFull() {
        DitherDesk x = sixteen();
        is(x.entry(2, 0), FULL);
        is(x.count(1), 16);
        is(x.told(2, 16, 0), NONE);
        is(x.told(2, 15, 0), 115);
    }

    @Says("FULL: 16.")
    static void oneThatGoesMakesRoom() {
        DitherDesk x = sixteen();
        x.drop(2, 0);
        is(x.entry(2, 0), 15);
        is(x.entry(2, 1), FULL);
    }

    @Says("FULL: 16.")
    static void anotherPaletteHasRoom() {
        DitherDesk x = sixteen();
        is(x.entry(3, 0), 0);
        is(x.entry(0, 0), 0);
    }

    @Says("STATE: that COLOUR is there; FULL: 16.")
    static void stateIsAheadOfFull() {
        DitherDesk x = sixteen();
        is(x.entry(2, 100), STATE);
        is(x.entry(2, 115), STATE);
    }

    @Says("STATE: that COLOUR is there;")
    static void stateIsAColourThatIsThere() {
        DitherDesk x = new DitherDesk();
        Due.mix(x, 1, 0, 5, WHITE);
        is(x.entry(1, 0), STATE);
        is(x.entry(1, 5), STATE);
        is(x.entry(1, WHITE), STATE);
        entriesAre(x, 1, 0, 5, WHITE);
    }

    @Says("STATE: that COLOUR is there;")
    static void oneThatWentIsThereNoMore() {
        DitherDesk x = new DitherDesk();
        Due.mix(x, 1, 5, 6);
        x.drop(1, 1);
        is(x.entry(1, 6), 1);
        x.drop(1, 0);
        x.drop(1, 0);
        is(x.entry(1, 5), 0);
    }

    @Says("STATE: that COLOUR is there;")
    static void thereIsInThatPalette() {
        DitherDesk x = new DitherDesk();
        x.entry(1, 5);
        is(x.entry(0, 5), 0);
        is(x.entry(2, 5), 0);
    }

    @Says("BAD (-2) a number is not as told")
    static void badIsAColourBelowOrAbove() {
        DitherDesk x = new DitherDesk();
        is(x.entry(0, -1), BAD);
        is(x.entry(0, 262144), BAD);
        is(x.entry(0, MIN), BAD);
        is(x.entry(0, MAX), BAD);
        is(x.count(1), 0);
    }

    @Says("told as one NUMBER: 4096 times red, 64 times green, and blue.")
    static void theLeastAndTheGreatestColour() {
        DitherDesk x = new DitherDesk();
        is(x.entry(0, 262143), 0);
        is(x.entry(0, 0), 1);
        entriesAre(x, 0, 262143, 0);
    }

    @Says("PALETTES 0 .. 3 have ENTRIES")
    static void noneBelow0AndAbove3() {
        DitherDesk x = new DitherDesk();
        is(x.entry(-1, 0), NONE);
        is(x.entry(4, 0), NONE);
        is(x.entry(MIN, 0), NONE);
        is(x.entry(MAX, 0), NONE);
        is(x.entry(0, 0), 0);
        is(x.entry(3, 0), 0);
    }

    @Says("the first that a call's words name")
    static void noneIsAheadOfBadAheadOfTheRest() {
        DitherDesk x = sixteen();
        is(x.entry(4, -1), NONE);
        is(x.entry(2, -1), BAD);
        is(x.entry(2, 262144), BAD);
    }

    @Says("unlike COLOURS, each LOCKED or not")
    static void itComesNotLocked() {
        DitherDesk x = new DitherDesk();
        x.entry(0, 5);
        x.lock(0, 0, true);
        x.drop(0, 0);
        is(x.entry(0, 6), 0);
        is(x.told(0, 0, 1), 0);
    }
}
