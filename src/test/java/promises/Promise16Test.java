/** Promise 16: told. */
final class Promise16Test extends Promise {
    public static void main(String[] args) {
        runTestsOf(Promise16Test.class);
    }

    private static void toldAre(DitherDesk x, int palette, int entry, int... told) {
        for (int what = 0; what < 5; what++) {
            is(x.told(palette, entry, what), told[what]);
        }
    }

    @Says("Of an ENTRY what 0 its COLOUR, 1 whether LOCKED, 2 red, 3 green, 4 blue.")
    static void theLeastAndTheGreatestChannels() {
        DitherDesk x = new DitherDesk();
        Due.mix(x, 0, 0, 262143);
        toldAre(x, 0, 0, 0, 0, 0, 0, 0);
        toldAre(x, 0, 1, 262143, 0, 63, 63, 63);
    }

    @Says("Of an ENTRY what 0 its COLOUR, 1 whether LOCKED, 2 red, 3 green, 4 blue.")
    static void eachChannelForItself() {
        DitherDesk x = new DitherDesk();
        Due.mix(x, 3, 63 * 4096, 63 * 64, 63, 4096 + 2 * 64 + 3);
        x.lock(3, 3, true);
        toldAre(x, 3, 0, 258048, 0, 63, 0, 0);
        toldAre(x, 3, 1, 4032, 0, 0, 63, 0);
        toldAre(x, 3, 2, 63, 0, 0, 0, 63);
        toldAre(x, 3, 3, 4227, 1, 1, 2, 3);
    }

    @Says("4 blue. NONE.")
    static void noneIsAWhatBelowOrAbove() {
        DitherDesk x = new DitherDesk();
        x.entry(0, 5);
        is(x.told(0, 0, -1), NONE);
        is(x.told(0, 0, 5), NONE);
        is(x.told(0, 0, MIN), NONE);
        is(x.told(0, 0, MAX), NONE);
    }

    @Says("4 blue. NONE.")
    static void noneIsAnEntryThatIsNotThere() {
        DitherDesk x = new DitherDesk();
        Due.mix(x, 0, 5, 6, 7);
        for (int what = 0; what < 5; what++) {
            for (int entry : new int[] {-1, 3, 15, 16, MIN, MAX}) {
                is(x.told(0, entry, what), NONE);
            }
            is(x.told(1, 0, what), NONE);
        }
        x.drop(0, 0);
        is(x.told(0, 2, 0), NONE);
        is(x.told(0, 1, 0), 7);
    }

    @Says("4 blue. NONE.")
    static void noneIsAPaletteBelowOrAbove() {
        DitherDesk x = new DitherDesk();
        x.entry(0, 5);
        x.entry(3, 5);
        for (int palette : new int[] {-1, 4, MIN, MAX}) {
            is(x.told(palette, 0, 0), NONE);
        }
    }

    @Says("PALETTES 0 .. 3 have ENTRIES 0, 1, .. (16 at most; none at first)")
    static void theSixteenth() {
        DitherDesk x = new DitherDesk();
        for (int e = 0; e < 16; e++) {
            x.entry(0, 64 * e + 1);
        }
        toldAre(x, 0, 15, 961, 0, 0, 15, 1);
        is(x.told(0, 16, 0), NONE);
    }
}
