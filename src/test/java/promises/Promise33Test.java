/** Promise 33: odds. */
final class Promise33Test extends Promise {
    public static void main(String[] args) {
        runTestsOf(Promise33Test.class);
    }

    private static void oddsAre(DitherDesk x, int entry, long above, long below) {
        is(x.odds(1, entry, 0), above);
        is(x.odds(1, entry, 1), below);
    }

    private static DitherDesk mixed(int... colours) {
        DitherDesk x = new DitherDesk();
        Due.mix(x, 1, colours);
        return x;
    }

    @Says("how likely it is that it is NEAREST: a fraction in lowest terms.")
    static void theOnlyOneIsCertain() {
        oddsAre(mixed(77), 0, 1, 1);
    }

    @Says("how likely it is that it is NEAREST: a fraction in lowest terms.")
    static void oneThatNeverIsHas0By1() {
        DitherDesk x = mixed(0, 1, 2);
        oddsAre(x, 0, 1, 8);
        oddsAre(x, 1, 0, 1);
        oddsAre(x, 2, 7, 8);
    }

    @Says("how likely it is that it is NEAREST: a fraction in lowest terms.")
    static void oneOf512() {
        DitherDesk x = mixed(0, red(9), green(9), 9);
        oddsAre(x, 0, 1, 512);
    }

    @Says("of COLOURS with 0, 9, 18, .., 63 on each CHANNEL, each alike likely")
    static void from0To63() {
        // only 63 is nearer to the one of 60 than to 54's, only 0 is nearer to that of 1 than to 9's
        DitherDesk x = mixed(red(1), red(9), red(54), red(60));
        oddsAre(x, 0, 1, 8);
        oddsAre(x, 3, 1, 8);
        oddsAre(x, 1, 3, 8);
        oddsAre(x, 2, 3, 8);
    }

    @Says("of like ones the least.")
    static void ofLikeOnesTheLeastHasIt() {
        DitherDesk x = mixed(red(9), red(27));
        oddsAre(x, 0, 3, 8); // 0, 9 and 18
        oddsAre(x, 1, 5, 8);
        DitherDesk y = mixed(red(27), red(9));
        oddsAre(y, 0, 3, 4);
        oddsAre(y, 1, 1, 4);
    }

    @Says("ODDS of an ENTRY")
    static void theSixteenth() {
        DitherDesk x = new DitherDesk();
        for (int e = 0; e < 16; e++) {
            x.entry(1, 4 * e + 3);
        }
        oddsAre(x, 15, 1, 8);
        is(x.odds(1, 16, 0), NO);
    }

    @Says("NO: palette, entry, part.")
    static void noIsAnEntryThatIsNotThere() {
        DitherDesk x = mixed(1, 2, 3);
        for (int entry : new int[] {-1, 3, 15, 16, MIN, MAX}) {
            is(x.odds(1, entry, 0), NO);
        }
        is(x.odds(0, 0, 0), NO);
        x.drop(1, 0);
        is(x.odds(1, 2, 0), NO);
    }

    @Says("NO: palette, entry, part.")
    static void noIsAPaletteBelowOrAbove() {
        DitherDesk x = mixed(1);
        x.entry(0, 1);
        x.entry(3, 1);
        for (int palette : new int[] {-1, 4, MIN, MAX}) {
            is(x.odds(palette, 0, 0), NO);
        }
    }

    @Says("NO: palette, entry, part.")
    static void noIsAPartBelowOrAbove() {
        DitherDesk x = mixed(1);
        for (int part : new int[] {-1, 2, MIN, MAX}) {
            is(x.odds(1, 0, part), NO);
        }
    }

    @Says("6000 in all")
    static void noWorkIsCountedOrNeeded() {
        DitherDesk x = worked(6000);
        is(x.odds(3, 0, 0), 1);
        is(x.count(6), 6000);
    }
}
