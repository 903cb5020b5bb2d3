/** Promise 14: change. */
final class Promise14Test extends Promise {
    public static void main(String[] args) {
        runTestsOf(Promise14Test.class);
    }

    private static DitherDesk three() {
        DitherDesk x = new DitherDesk();
        Due.mix(x, 0, 10, 20, 30);
        return x;
    }

    @Says("An ENTRY becomes another COLOUR: what it was.")
    static void whatItWas() {
        DitherDesk x = three();
        is(x.change(0, 0, 11), 10);
        is(x.change(0, 0, 12), 11);
        is(x.change(0, 2, 31), 30);
        entriesAre(x, 0, 12, 20, 31);
    }

    @Says("or another one has that COLOUR.")
    static void itsOwnColourIsNoOthers() {
        DitherDesk x = three();
        is(x.change(0, 1, 20), 20);
        entriesAre(x, 0, 10, 20, 30);
    }

    @Says("or another one has that COLOUR.")
    static void stateIsAnotherOnesColour() {
        DitherDesk x = three();
        is(x.change(0, 1, 10), STATE);
        is(x.change(0, 1, 30), STATE);
        is(x.change(0, 0, 30), STATE);
        is(x.change(0, 2, 10), STATE);
        entriesAre(x, 0, 10, 20, 30);
    }

    @Says("or another one has that COLOUR.")
    static void whatAnotherHadIsFree() {
        DitherDesk x = three();
        x.change(0, 0, 11);
        is(x.change(0, 1, 10), 20);
        x.drop(0, 2);
        is(x.change(0, 0, 30), 11);
        entriesAre(x, 0, 30, 10);
    }

    @Says("STATE: it is LOCKED")
    static void stateIsALockedOne() {
        DitherDesk x = three();
        x.lock(0, 1, true);
        is(x.change(0, 1, 21), STATE);
        is(x.change(0, 1, 20), STATE);
        is(x.change(0, 0, 11), 10);
        entriesAre(x, 0, 11, 20, 30);
    }

    @Says("STATE: it is LOCKED")
    static void oneThatIsLockedNoMoreChanges() {
        DitherDesk x = three();
        x.lock(0, 1, true);
        x.lock(0, 1, false);
        is(x.change(0, 1, 21), 20);
        is(x.told(0, 1, 1), 0);
    }

    @Says("told as one NUMBER: 4096 times red, 64 times green, and blue.")
    static void theLeastAndTheGreatestColour() {
        DitherDesk x = three();
        is(x.change(0, 0, 0), 10);
        is(x.change(0, 2, 262143), 30);
        entriesAre(x, 0, 0, 20, 262143);
    }

    @Says("NONE; BAD; STATE: it is LOCKED")
    static void badIsAColourBelowOrAbove() {
        DitherDesk x = three();
        for (int colour : new int[] {-1, 262144, MIN, MAX}) {
            is(x.change(0, 0, colour), BAD);
        }
        entriesAre(x, 0, 10, 20, 30);
    }

    @Says("NONE; BAD; STATE: it is LOCKED")
    static void badIsAheadOfState() {
        DitherDesk x = three();
        x.lock(0, 1, true);
        is(x.change(0, 1, -1), BAD);
        is(x.change(0, 1, 262144), BAD);
    }

    @Says("NONE; BAD; STATE: it is LOCKED")
    static void noneIsAnEntryThatIsNotThere() {
        DitherDesk x = three();
        for (int entry : new int[] {-1, 3, 15, 16, MIN, MAX}) {
            is(x.change(0, entry, 5), NONE);
            is(x.change(0, entry, -1), NONE);
        }
        is(x.change(1, 0, 5), NONE);
        entriesAre(x, 0, 10, 20, 30);
        is(x.count(1), 3);
    }

    @Says("NONE; BAD; STATE: it is LOCKED")
    static void noneIsAPaletteBelowOrAbove() {
        DitherDesk x = three();
        for (int palette : new int[] {-1, 4, MIN, MAX}) {
            is(x.change(palette, 0, 5), NONE);
            is(x.change(palette, 0, -1), NONE);
        }
        entriesAre(x, 0, 10, 20, 30);
    }

    @Says("An ENTRY becomes another COLOUR")
    static void theSixteenth() {
        DitherDesk x = new DitherDesk();
        for (int e = 0; e < 16; e++) {
            x.entry(3, e);
        }
        is(x.change(3, 15, 99), 15);
        is(x.told(3, 15, 0), 99);
        is(x.change(3, 14, 99), STATE);
    }
}
