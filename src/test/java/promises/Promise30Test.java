/** Promise 30: best. */
final class Promise30Test extends Promise {
    public static void main(String[] args) {
        runTestsOf(Promise30Test.class);
    }

    private static DitherDesk plainDesk() {
        DitherDesk x = new DitherDesk();
        x.picture(1, 2, 2);
        x.entry(2, 9);
        return x;
    }

    @Says("BEST: the WAY by which BLOCKS would be least; of like ones the least.")
    static void allAlikeItIsPlain() {
        DitherDesk x = new DitherDesk();
        x.rule(3, 0);
        Due.row(x, 1, red(20), red(20));
        Due.mix(x, 2, 0, red(32));
        is(x.best(1, 2, 0), 0);
        is(x.best(1, 2, 1), 576); // 12 and 12
    }

    @Says("BEST: the WAY by which BLOCKS would be least; of like ones the least.")
    static void spreadAheadOfSerpentAndScreens() {
        DitherDesk x = new DitherDesk();
        x.rule(1, 1);
        Due.row(x, 1, red(20), red(20));
        Due.mix(x, 2, 0, red(32));
        is(x.best(1, 2, 0), 1);
        is(x.best(1, 2, 1), 64); // 12 and -20, by screens, too
    }

    @Says("BEST: the WAY by which BLOCKS would be least")
    static void theLastWay() {
        DitherDesk x = new DitherDesk();
        Due.row(x, 1, 13, 13);
        Due.mix(x, 2, 0, 32);
        // by TURNED 19 and 11 are looked for: 32 and 0
        is(x.best(1, 2, 0), 4);
        is(x.best(1, 2, 1), 36);
    }

    @Says("what 0 the WAY, 1 BLOCKS by it.")
    static void nothingIsOff() {
        DitherDesk x = new DitherDesk();
        x.rule(1, 4);
        x.picture(1, 12, 12);
        x.shade(1, 5, 5);
        x.entry(2, 5);
        is(x.best(1, 2, 0), 0);
        is(x.best(1, 2, 1), 0);
    }

    @Says("what 0 the WAY, 1 BLOCKS by it.")
    static void theMostThatCanBeOff() {
        DitherDesk x = new DitherDesk();
        x.picture(1, 12, 12);
        x.shade(1, WHITE, WHITE);
        x.entry(2, 0);
        is(x.best(1, 2, 0), 0);
        is(x.best(1, 2, 1), 6858432);
    }

    @Says("NONE: picture, palette, what;")
    static void noneIsAMissingPicture() {
        DitherDesk x = plainDesk();
        for (int picture : new int[] {0, 2, 3, -1, 4, MIN, MAX}) {
            is(x.best(picture, 2, 0), NONE);
        }
        x.picture(1, 0, 0);
        is(x.best(1, 2, 0), NONE);
        is(x.count(6), 0);
    }

    @Says("NONE: picture, palette, what;")
    static void noneIsAPaletteBelowOrAbove() {
        DitherDesk x = plainDesk();
        for (int palette : new int[] {-1, 4, MIN, MAX}) {
            is(x.best(1, palette, 0), NONE);
        }
        is(x.count(6), 0);
    }

    @Says("NONE: picture, palette, what;")
    static void noneIsAWhatBelowOrAbove() {
        DitherDesk x = plainDesk();
        for (int what : new int[] {-1, 2, MIN, MAX}) {
            is(x.best(1, 2, what), NONE);
        }
        is(x.count(6), 0);
    }

    @Says("STATE: no ENTRIES; FULL: WORK.")
    static void stateIsAnEmptyPalette() {
        DitherDesk x = plainDesk();
        is(x.best(1, 0, 0), STATE);
        is(x.best(1, 3, 1), STATE);
        is(x.count(6), 0);
    }

    @Says("the first that a call's words name")
    static void noneThenStateThenFull() {
        DitherDesk x = worked(6000);
        is(x.best(0, 0, 0), NONE);
        is(x.best(3, 0, 2), NONE);
        is(x.best(3, 0, 0), STATE);
        is(x.best(3, 3, 0), FULL);
    }

    @Says("make() 1, best() 5")
    static void eachCounts5() {
        DitherDesk x = plainDesk();
        x.best(1, 2, 0);
        is(x.count(6), 5);
        x.best(1, 2, 1);
        is(x.count(6), 10);
    }

    @Says("6000 in all: what would be more is FULL (and isn't counted)")
    static void workThatJustFits() {
        DitherDesk x = worked(5995);
        is(x.best(3, 3, 1), 0);
        is(x.count(6), 6000);
    }

    @Says("6000 in all: what would be more is FULL (and isn't counted)")
    static void workThatIsOneTooMuch() {
        DitherDesk x = worked(5996);
        is(x.best(3, 3, 1), FULL);
        is(x.count(6), 5996);
    }

    @Says("All that follows is asked, and changes nothing.")
    static void noSheetIsMadeByIt() {
        DitherDesk x = plainDesk();
        is(x.best(1, 2, 0), 0);
        is(x.sum(13), NO);
    }

    @Says("All that follows is asked, and changes nothing.")
    static void theSheetStays() {
        DitherDesk x = plainDesk();
        x.rule(1, 1);
        x.make(1, 2, 2);
        long lost = x.sum(12);
        x.paint(1, 1, 1, WHITE);
        x.best(1, 2, 0);
        is(x.sum(13), 2);
        is(x.sheet(1, 1, 2), 0);
        is(x.sum(12), lost);
        pixelsAre(x, 1, 0, 0, 0, WHITE);
        entriesAre(x, 2, 9);
        is(x.rule(1, 0), 1);
    }
}
