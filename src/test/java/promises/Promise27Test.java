/** Promise 27: sum. */
final class Promise27Test extends Promise {
    public static void main(String[] args) {
        runTestsOf(Promise27Test.class);
    }

    /** A sheet of one colour and one entry. */
    private static DitherDesk flat(int wide, int high, int colour, int entry) {
        DitherDesk x = new DitherDesk();
        x.picture(0, wide, high);
        x.shade(0, colour, colour);
        x.entry(0, entry);
        is(x.make(0, 0, 0), 1);
        return x;
    }

    private static void sumsAre(DitherDesk x, int from, long... sums) {
        for (int i = 0; i < sums.length; i++) {
            is(x.sum(from + i), sums[i]);
        }
    }

    @Says("NO: what, none is MADE.")
    static void noWithoutASheet() {
        DitherDesk x = new DitherDesk();
        x.picture(0, 2, 2);
        x.entry(0, 0);
        for (int what = -1; what < 17; what++) {
            is(x.sum(what), NO);
        }
    }

    @Says("NO: what, none is MADE.")
    static void noIsAWhatBelowOrAbove() {
        DitherDesk x = flat(2, 3, 0, 0);
        is(x.sum(-1), NO);
        is(x.sum(16), NO);
        is(x.sum(MIN), NO);
        is(x.sum(MAX), NO);
        is(x.sum(0), 0);
        is(x.sum(15), 3);
    }

    @Says("what 0 .. 2 ERROR on a CHANNEL, 3 on all, 4 .. 6 SHIFT, 7 BLOCKS, 8 RUNS, 9 how many unlike ENTRIES")
    static void nothingIsOff() {
        DitherDesk x = flat(12, 12, 4227, 4227);
        sumsAre(x, 0, 0, 0, 0, 0, 0, 0, 0, 0, 12, 1, 0, 0, 0, 0, 12, 12);
    }

    @Says("ERROR on a CHANNEL: the squares of how far the PICTURE's and the ENTRY's COLOURS are there, together.")
    static void theMostThatCanBeOff() {
        DitherDesk x = flat(12, 12, WHITE, 0);
        sumsAre(x, 0, 571536, 571536, 571536, 1714608, -9072, -9072, -9072, 6858432, 12, 1);
    }

    @Says("SHIFT: the ENTRY's less the PICTURE's, together.")
    static void shiftAbove0AndBelow() {
        DitherDesk x = flat(2, 1, Due.rgb(0, 63, 5), Due.rgb(63, 0, 5));
        sumsAre(x, 4, 126, -126, 0);
        sumsAre(x, 0, 7938, 7938, 0, 15876);
    }

    @Says("4 .. 6 SHIFT")
    static void shiftsThatCancelOut() {
        DitherDesk x = new DitherDesk();
        Due.row(x, 0, red(7), red(13));
        x.entry(0, red(10));
        x.make(0, 0, 0);
        sumsAre(x, 0, 18, 0, 0, 18, 0, 0, 0, 0);
    }

    @Says("BLOCKS: PIXELS by twos both ways")
    static void onePixelIsABlock() {
        sumsAre(flat(1, 1, red(3), 0), 7, 9);
    }

    @Says("BLOCKS: PIXELS by twos both ways")
    static void fourPixelsAreABlock() {
        sumsAre(flat(2, 2, red(1), 0), 7, 16);
    }

    @Says("(what is left over at the right, below, too)")
    static void leftOverAtTheRight() {
        sumsAre(flat(3, 1, red(1), 0), 7, 5);
        sumsAre(flat(3, 2, red(1), 0), 7, 20);
    }

    @Says("(what is left over at the right, below, too)")
    static void leftOverBelow() {
        sumsAre(flat(1, 3, red(1), 0), 7, 5);
        sumsAre(flat(2, 3, red(1), 0), 7, 20);
    }

    @Says("(what is left over at the right, below, too)")
    static void leftOverBothWays() {
        sumsAre(flat(3, 3, red(1), 0), 7, 25);
        sumsAre(flat(11, 11, red(1), 0), 7, 441);
    }

    @Says("from the left at the top")
    static void blocksBeginAtTheLeftAtTheTop() {
        DitherDesk x = new DitherDesk();
        x.picture(0, 3, 3);
        for (int p = 0; p < 9; p++) {
            x.paint(0, p % 3, p / 3, red(1 + p));
        }
        x.entry(0, 0);
        x.make(0, 0, 0);
        // 1 + 2 + 4 + 5, 3 + 6, 7 + 8, 9
        is(x.sum(7), 144 + 81 + 225 + 81);
    }

    @Says("of each block, on each CHANNEL, the square of its PIXELS' SHIFT; all together")
    static void channelsAreNotMixed() {
        DitherDesk x = flat(2, 1, Due.rgb(5, 0, 0), Due.rgb(0, 5, 0));
        is(x.sum(7), 200);
    }

    @Says("RUNS: PIXELS whose ENTRY isn't that of the one to the left (the first of each row, too).")
    static void theFirstOfEachRowIsARun() {
        sumsAre(flat(1, 1, 0, 0), 8, 1);
        sumsAre(flat(1, 12, 0, 0), 8, 12);
        sumsAre(flat(12, 1, 0, 0), 8, 1);
        sumsAre(flat(12, 12, 0, 0), 8, 12);
    }

    @Says("RUNS: PIXELS whose ENTRY isn't that of the one to the left (the first of each row, too).")
    static void eachPixelIsARun() {
        DitherDesk x = new DitherDesk();
        x.picture(0, 12, 12);
        for (int p = 0; p < 144; p += 2) {
            x.paint(0, p % 12, p / 12, WHITE);
        }
        Due.mix(x, 0, 0, WHITE);
        x.make(0, 0, 0);
        is(x.sum(8), 144);
        is(x.sum(9), 2);
    }

    @Says("RUNS: PIXELS whose ENTRY isn't that of the one to the left (the first of each row, too).")
    static void rowsAreForThemselves() {
        DitherDesk x = new DitherDesk();
        x.picture(0, 3, 3);
        x.paint(0, 1, 0, 9);
        x.paint(0, 2, 2, 9);
        Due.mix(x, 0, 0, 9);
        x.make(0, 0, 0);
        is(x.sum(8), 6); // 3, 1 and 2
    }

    @Says("9 how many unlike ENTRIES")
    static void sixteenUnlikeEntries() {
        DitherDesk x = new DitherDesk();
        x.picture(0, 4, 4);
        for (int e = 0; e < 16; e++) {
            x.entry(0, red(4 * e));
            x.paint(0, e % 4, e / 4, red(4 * e));
        }
        x.make(0, 0, 0);
        is(x.sum(9), 16);
        is(x.sum(8), 16);
    }

    @Says("10 .. 12 LOST (floatToIntBits)")
    static void lostIs0ByPlainAndScreens() {
        DitherDesk x = flat(1, 1, WHITE, 0);
        x.rule(1, 2);
        for (int way : new int[] {0, 3, 4}) {
            x.make(0, 0, way);
            sumsAre(x, 10, 0, 0, 0);
        }
    }

    @Says("10 .. 12 LOST (floatToIntBits)")
    static void lostBelow0IsANumberBelow0() {
        DitherDesk x = flat(1, 1, Due.rgb(10, 20, 30), Due.rgb(12, 20, 29));
        x.rule(1, 1);
        x.make(0, 0, 1);
        sumsAre(x, 10, -1073741824L, 0, 1065353216L); // -2, 0, 1
    }

    @Says("10 .. 12 LOST (floatToIntBits)")
    static void lostOfOnePixelByEachKernel() {
        DitherDesk x = flat(1, 1, Due.rgb(16, 8, 0), Due.rgb(0, 0, 24));
        float[] shares = {0f, 1f, 1f, 0.75f, 1f};
        for (int kernel = 0; kernel < 5; kernel++) {
            x.rule(1, kernel);
            for (int way = 1; way < 3; way++) {
                x.make(0, 0, way);
                is(x.sum(10), Float.floatToIntBits(16 * shares[kernel]));
                is(x.sum(11), Float.floatToIntBits(8 * shares[kernel]));
                is(x.sum(12), kernel == 0 ? 0 : Float.floatToIntBits(-24 * shares[kernel]));
            }
        }
    }

    @Says("(0.0f at first) does so.")
    static void lostBeginsAnew() {
        DitherDesk x = flat(1, 1, WHITE, 0);
        x.rule(1, 1);
        x.make(0, 0, 1);
        x.make(0, 0, 1);
        is(x.sum(10), Float.floatToIntBits(63f));
        x.make(0, 0, 0);
        is(x.sum(10), 0);
    }

    @Says("(all floats, from the left, * and / ahead of +)")
    static void lostToTheBit() {
        DitherDesk x = new DitherDesk();
        x.rule(1, 2);
        Due.mix(x, 0, 0, red(63));
        Due.row(x, 0, red(20), red(21), red(22), red(23), red(24), red(25), red(26), red(27), red(28), red(29), red(30), red(31));
        x.make(0, 0, 1);
        float came = 0f;
        float lost = 0f;
        for (int i = 0; i < 12; i++) {
            float held = 20 + i + came;
            float off = held - ((int) (held + 0.5f) > 31 ? 63 : 0);
            came = off * 7 / 16;
            lost = i < 11 ? lost : lost + came;
            lost = lost + off * 3 / 16;
            lost = lost + off * 5 / 16;
            lost = lost + off * 1 / 16;
        }
        is(x.sum(10), Float.floatToIntBits(lost));
    }

    @Says("13 its WAY, 14 WIDE, 15 HIGH.")
    static void theLeastAndTheGreatestWayWideAndHigh() {
        sumsAre(flat(1, 12, 0, 0), 13, 0, 1, 12);
        DitherDesk x = flat(12, 1, 0, 0);
        x.make(0, 0, 4);
        sumsAre(x, 13, 4, 12, 1);
    }
}
