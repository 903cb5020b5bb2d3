/** Promise 25: make. */
final class Promise25Test extends Promise {
    private static final int PLAIN = 0, SPREAD = 1, SERPENT = 2, SCREEN = 3, TURNED = 4;

    public static void main(String[] args) {
        runTestsOf(Promise25Test.class);
    }

    /** Picture 1 and palette 2, with which nothing is off. */
    private static DitherDesk plainDesk() {
        DitherDesk x = new DitherDesk();
        x.picture(1, 2, 2);
        x.entry(2, 0);
        return x;
    }

    /** Palette 0 of red 0 .. 15, picture 0 black, but for one pixel. */
    private static DitherDesk onePixel(int wide, int high, int atX, int atY, int colour, int kernel) {
        DitherDesk x = new DitherDesk();
        shadesOf(x, 4096);
        x.picture(0, wide, high);
        x.paint(0, atX, atY, colour);
        x.rule(1, kernel);
        return x;
    }

    private static void shadesOf(DitherDesk x, int unit) {
        Due.mix(x, 0);
        for (int v = 0; v < 16; v++) {
            x.entry(0, unit * v);
        }
    }

    @Says("by a WAY: 0 PLAIN, 1 SPREAD, 2 SERPENT, 3 SCREEN, 4 TURNED.")
    static void eachWay() {
        DitherDesk x = plainDesk();
        for (int way = 0; way < 5; way++) {
            is(x.make(1, 2, way), 1);
            is(x.sum(13), way);
        }
    }

    @Says("BAD: way;")
    static void badIsAWayBelowOrAbove() {
        DitherDesk x = plainDesk();
        is(x.make(1, 2, -1), BAD);
        is(x.make(1, 2, 5), BAD);
        is(x.make(1, 2, MIN), BAD);
        is(x.make(1, 2, MAX), BAD);
        is(x.sum(13), NO);
        is(x.count(6), 0);
    }

    @Says("NONE: picture, palette;")
    static void noneIsAMissingPicture() {
        DitherDesk x = plainDesk();
        for (int picture : new int[] {0, 2, 3, -1, 4, MIN, MAX}) {
            is(x.make(picture, 2, 0), NONE);
        }
        x.picture(1, 0, 0);
        is(x.make(1, 2, 0), NONE);
        is(x.sum(13), NO);
    }

    @Says("NONE: picture, palette;")
    static void noneIsAPaletteBelowOrAbove() {
        DitherDesk x = plainDesk();
        for (int palette : new int[] {-1, 4, MIN, MAX}) {
            is(x.make(1, palette, 0), NONE);
        }
        is(x.sum(13), NO);
    }

    @Says("STATE: no ENTRIES;")
    static void stateIsAnEmptyPalette() {
        DitherDesk x = plainDesk();
        is(x.make(1, 0, 0), STATE);
        is(x.make(1, 3, 4), STATE);
        x.drop(2, 0);
        is(x.make(1, 2, 0), STATE);
        is(x.count(6), 0);
    }

    @Says("the first that a call's words name")
    static void noneThenBadThenStateThenFull() {
        DitherDesk x = worked(6000);
        is(x.make(0, 0, 5), NONE);
        is(x.make(3, 4, 5), NONE);
        is(x.make(3, 0, 5), BAD);
        is(x.make(3, 0, 0), STATE);
        is(x.make(3, 3, 0), FULL);
    }

    @Says("6000 in all: what would be more is FULL (and isn't counted)")
    static void theLastWorkAndOneMore() {
        DitherDesk x = worked(5999);
        is(x.make(3, 3, 0), 1);
        is(x.count(6), 6000);
        is(x.make(3, 3, 0), FULL);
        is(x.count(6), 6000);
    }

    @Says("What is answered so changes nothing.")
    static void refusedTheSheetStays() {
        DitherDesk x = worked(5999);
        is(x.make(3, 3, 2), 1);
        x.paint(3, 0, 0, 9);
        is(x.make(3, 3, 1), FULL);
        is(x.make(3, 0, 1), STATE);
        is(x.make(3, 3, 5), BAD);
        is(x.make(0, 3, 1), NONE);
        is(x.sum(13), 2);
        is(x.sheet(0, 0, 2), 0);
    }

    @Says("THE SHEET is MADE: how many unlike ENTRIES it has.")
    static void oneToSixteenEntries() {
        DitherDesk x = new DitherDesk();
        x.picture(0, 4, 4);
        for (int p = 0; p < 16; p++) {
            x.entry(0, red(4 * p));
            is(x.make(0, 0, PLAIN), p + 1);
            x.paint(0, (p + 1) % 4, (p + 1) / 4, red(4 * p + 4));
        }
    }

    @Says("THE SHEET is MADE: how many unlike ENTRIES it has.")
    static void theLeastPicture() {
        DitherDesk x = new DitherDesk();
        Due.row(x, 0, WHITE);
        Due.mix(x, 0, 0, WHITE);
        for (int way = 0; way < 3; way++) {
            is(x.make(0, 0, way), 1);
            sheetIs(x, 1);
        }
    }

    @Says("THE SHEET is MADE: how many unlike ENTRIES it has.")
    static void theGreatestPicture() {
        DitherDesk x = new DitherDesk();
        x.picture(0, 12, 12);
        x.paint(0, 11, 11, WHITE);
        Due.mix(x, 0, 0, WHITE);
        for (int way = 0; way < 3; way++) {
            is(x.make(0, 0, way), 2);
            is(x.sheet(11, 11, 0), 1);
            is(x.sheet(10, 11, 0), 0);
            is(x.used(0), 143);
        }
    }

    @Says("HELD is that, but 0.0f, if it is below")
    static void heldAt0BySpread() {
        DitherDesk x = new DitherDesk();
        x.rule(1, 1);
        Due.mix(x, 0, red(20), red(0));
        Due.row(x, 0, red(11), red(5), red(10));
        // 11 goes to 20, -9 comes to 5; -4 is held as 0, which isn't off: 10 is as near to both
        x.make(0, 0, SPREAD);
        sheetIs(x, 0, 1, 0);
        is(x.sum(10), Float.floatToIntBits(-10f));
    }

    @Says("HELD is that, but 0.0f, if it is below")
    static void justAbove0IsHeldAsItIs() {
        DitherDesk x = new DitherDesk();
        x.rule(1, 4);
        Due.mix(x, 0, red(0), red(10));
        Due.row(x, 0, red(1), red(0));
        // half of 1 is lost, half comes to 0, and is lost there
        x.make(0, 0, SPREAD);
        sheetIs(x, 0, 0);
        is(x.sum(10), Float.floatToIntBits(1f));
    }

    @Says("63.0f, if it is above")
    static void heldAt63BySpread() {
        DitherDesk x = new DitherDesk();
        x.rule(1, 1);
        Due.mix(x, 0, red(40), red(63), red(48));
        Due.row(x, 0, red(52), red(62), red(44));
        // 52 goes to 48, 4 comes to 62: 66 is held as 63, which isn't off: 44 is as near to 40 and 48
        x.make(0, 0, SPREAD);
        sheetIs(x, 2, 1, 0);
        is(x.sum(10), Float.floatToIntBits(4f));
    }

    @Says("63.0f, if it is above")
    static void justBelow63IsHeldAsItIs() {
        DitherDesk x = new DitherDesk();
        x.rule(1, 4);
        Due.mix(x, 0, red(62), red(50));
        Due.row(x, 0, red(63), red(62));
        // half of 1 is lost, half comes to 62, and is lost there
        x.make(0, 0, SPREAD);
        sheetIs(x, 0, 0);
        is(x.sum(10), Float.floatToIntBits(1f));
    }

    @Says("HELD is that, but 0.0f, if it is below")
    static void heldAt0ByScreen() {
        DitherDesk x = new DitherDesk();
        x.rule(3, 63);
        Due.mix(x, 0, red(0), red(24));
        x.picture(0, 2, 2);
        // -23.625, 7.875, 23.625, -7.875
        is(x.make(0, 0, SCREEN), 2);
        sheetIs(x, 0, 0, 1, 0);
    }

    @Says("63.0f, if it is above")
    static void heldAt63ByScreen() {
        DitherDesk x = new DitherDesk();
        x.rule(3, 63);
        Due.mix(x, 0, red(63), red(39));
        x.picture(0, 2, 2);
        x.shade(0, red(63), red(63));
        is(x.make(0, 0, SCREEN), 2);
        sheetIs(x, 1, 0, 0, 0);
    }

    @Says("LOOKED for is the COLOUR of (int) (HELD + 0.5f)")
    static void aHalfLooksForTheNext() {
        DitherDesk x = new DitherDesk();
        Due.mix(x, 0, red(0), red(8));
        Due.row(x, 0, red(1), red(4));
        x.rule(1, 4);
        x.make(0, 0, SPREAD); // 4.5
        sheetIs(x, 0, 1);
        x.rule(1, 2);
        x.make(0, 0, SPREAD); // 4.4375
        sheetIs(x, 0, 0);
    }

    @Says("the PIXEL's ENTRY is NEAREST of that.")
    static void ofLikeOnesTheLeastEntry() {
        DitherDesk x = new DitherDesk();
        Due.mix(x, 0, red(10), red(0));
        Due.row(x, 0, red(5), red(4), red(6));
        x.make(0, 0, PLAIN);
        sheetIs(x, 0, 1, 0);
        x.rule(0, 2);
        x.make(0, 0, PLAIN);
        sheetIs(x, 0, 1, 0);
    }

    @Says("PLAIN: WANTED is the PICTURE's CHANNEL.")
    static void plainIsNotSpread() {
        DitherDesk x = new DitherDesk();
        x.rule(1, 1);
        x.rule(3, 63);
        Due.mix(x, 0, red(0), red(63));
        Due.row(x, 0, red(31), red(31), red(31));
        x.make(0, 0, PLAIN);
        sheetIs(x, 0, 0, 0);
        is(x.sum(10), 0);
    }

    @Says("what CAME to the PIXEL there (0.0f at first)")
    static void eachMakeBeginsAnew() {
        DitherDesk x = onePixel(4, 3, 1, 0, red(31), 2);
        x.make(0, 0, SPREAD);
        x.paint(0, 1, 0, 0);
        is(x.make(0, 0, SPREAD), 1);
        is(x.used(0), 12);
        is(x.sum(10), 0);
    }

    @Says("KERNELS: 0 NONE (no PARTS)")
    static void withoutPartsSpreadIsPlain() {
        DitherDesk x = new DitherDesk();
        Due.mix(x, 0, red(0), red(63));
        Due.row(x, 0, red(31), red(31), red(31));
        x.make(0, 0, SPREAD);
        sheetIs(x, 0, 0, 0);
        is(x.sum(10), 0);
        x.make(0, 0, SERPENT);
        sheetIs(x, 0, 0, 0);
        is(x.sum(10), 0);
    }

    @Says("1 RIGHT of 1: (1, 0, 1)")
    static void right() {
        DitherDesk x = onePixel(4, 2, 1, 0, red(25), 1);
        x.make(0, 0, SPREAD);
        sheetIs(x, 0, 15, 10, 0, 0, 0, 0, 0);
        is(x.sum(10), 0);
    }

    @Says("2 FLOYD of 16: (1, 0, 7) (-1, 1, 3) (0, 1, 5) (1, 1, 1)")
    static void floyd() {
        DitherDesk x = onePixel(4, 3, 1, 0, red(31), 2);
        x.make(0, 0, SPREAD);
        sheetIs(x, 0, 15, 7, 0, 3, 5, 1, 0, 0, 0, 0, 0);
        is(x.sum(10), 0);
    }

    @Says("3 ATKIN of 8: (1, 0, 1) (2, 0, 1) (-1, 1, 1) (0, 1, 1) (1, 1, 1) (0, 2, 1)")
    static void atkin() {
        DitherDesk x = onePixel(4, 3, 1, 0, red(31), 3);
        x.make(0, 0, SPREAD);
        sheetIs(x, 0, 15, 2, 2, 2, 2, 2, 0, 0, 2, 0, 0);
        is(x.sum(10), 0);
    }

    @Says("4 LITE of 4: (1, 0, 2) (-1, 1, 1) (0, 1, 1)")
    static void lite() {
        DitherDesk x = onePixel(4, 3, 1, 0, red(31), 4);
        x.make(0, 0, SPREAD);
        sheetIs(x, 0, 15, 8, 0, 4, 4, 0, 0, 0, 0, 0, 0);
        is(x.sum(10), 0);
    }

    @Says("on each CHANNEL: what CAME to the PIXEL there")
    static void byGreenAndBlueAsByRed() {
        for (int unit : new int[] {64, 1}) {
            DitherDesk x = onePixel(4, 3, 1, 0, 31 * unit, 2);
            shadesOf(x, unit);
            x.make(0, 0, SPREAD);
            sheetIs(x, 0, 15, 7, 0, 3, 5, 1, 0, 0, 0, 0, 0);
            is(x.sum(10), 0);
            is(x.sum(11), 0);
            is(x.sum(12), 0);
        }
    }

    @Says("on each CHANNEL: what CAME to the PIXEL there")
    static void toTheLastPixelOfTheGreatest() {
        for (int unit : new int[] {4096, 64, 1}) {
            DitherDesk x = onePixel(12, 12, 10, 11, 31 * unit, 2);
            shadesOf(x, unit);
            x.make(0, 0, SPREAD);
            is(x.sheet(10, 11, 0), 15);
            is(x.sheet(11, 11, 0), 7);
            is(x.used(0), 142);
        }
    }

    @Says("if there is none, THE SHEET's LOST on that CHANNEL (0.0f at first) does so")
    static void beyondTheRightNothingComesToTheNextRow() {
        DitherDesk x = onePixel(3, 3, 2, 0, red(31), 2);
        x.make(0, 0, SPREAD);
        sheetIs(x, 0, 0, 15, 0, 3, 5, 0, 0, 0);
        is(x.sum(10), Float.floatToIntBits(8f));
        DitherDesk y = onePixel(3, 3, 2, 0, red(31), 3);
        y.make(0, 0, SPREAD);
        sheetIs(y, 0, 0, 15, 0, 2, 2, 0, 0, 2);
        is(y.sum(10), Float.floatToIntBits(6f));
    }

    @Says("if there is none, THE SHEET's LOST on that CHANNEL (0.0f at first) does so")
    static void beyondTheLeftNothingComesToTheRowItself() {
        DitherDesk x = onePixel(3, 3, 0, 0, red(31), 2);
        x.make(0, 0, SPREAD);
        sheetIs(x, 15, 7, 0, 5, 1, 0, 0, 0, 0);
        is(x.sum(10), Float.floatToIntBits(3f));
    }

    @Says("if there is none, THE SHEET's LOST on that CHANNEL (0.0f at first) does so")
    static void belowTheLastRow() {
        DitherDesk x = onePixel(3, 2, 1, 1, red(31), 2);
        x.make(0, 0, SPREAD);
        sheetIs(x, 0, 0, 0, 0, 15, 7);
        is(x.sum(10), Float.floatToIntBits(9f));
        DitherDesk y = onePixel(4, 2, 1, 0, red(31), 3);
        y.make(0, 0, SPREAD);
        sheetIs(y, 0, 15, 2, 2, 2, 2, 2, 0);
        is(y.sum(10), Float.floatToIntBits(2f));
    }

    @Says("SERPENT: as SPREAD, but rows 1, 3, .. go from the right")
    static void oddRowsGoFromTheRight() {
        DitherDesk x = new DitherDesk();
        x.rule(1, 1);
        Due.mix(x, 0, red(10), red(0));
        x.picture(0, 3, 4);
        for (int y = 0; y < 4; y++) {
            x.paint(0, 0, y, red(4));
            x.paint(0, 1, y, red(4));
        }
        // from the left 4 to 0, 8 to 10, -2 to 0; from the right 0 to 0, 4 to 0, 8 to 10, and -2 is lost
        x.make(0, 0, SERPENT);
        sheetIs(x, 1, 0, 1, 0, 1, 1, 1, 0, 1, 0, 1, 1);
        is(x.sum(10), Float.floatToIntBits(-4f));
        x.make(0, 0, SPREAD);
        sheetIs(x, 1, 0, 1, 1, 0, 1, 1, 0, 1, 1, 0, 1);
        is(x.sum(10), 0);
    }

    @Says("and PARTS to the right are to the left there")
    static void partsAreTurnedInOddRows() {
        DitherDesk x = onePixel(4, 4, 2, 1, red(31), 2);
        x.make(0, 0, SERPENT);
        sheetIs(x, 0, 0, 0, 0, 0, 7, 15, 0, 0, 1, 5, 3, 0, 0, 0, 0);
        DitherDesk y = onePixel(4, 4, 2, 1, red(31), 3);
        y.make(0, 0, SERPENT);
        sheetIs(y, 0, 0, 0, 0, 2, 2, 15, 0, 0, 2, 2, 2, 0, 0, 2, 0);
        DitherDesk z = onePixel(4, 4, 2, 1, red(31), 4);
        z.make(0, 0, SERPENT);
        sheetIs(z, 0, 0, 0, 0, 0, 8, 15, 0, 0, 0, 4, 4, 0, 0, 0, 0);
    }

    @Says("SERPENT: as SPREAD")
    static void evenRowsGoAsBySpread() {
        DitherDesk x = onePixel(4, 3, 1, 0, red(31), 2);
        x.make(0, 0, SERPENT);
        sheetIs(x, 0, 15, 7, 0, 3, 5, 1, 0, 0, 0, 0, 0);
        DitherDesk y = onePixel(4, 4, 1, 2, red(31), 2);
        y.make(0, 0, SERPENT);
        sheetIs(y, 0, 0, 0, 0, 0, 0, 0, 0, 0, 15, 7, 0, 3, 5, 1, 0);
    }

    private static final int[][] SCREENS = {
        {0, 2, 3, 1},
        {0, 8, 2, 10, 12, 4, 14, 6, 3, 11, 1, 9, 15, 7, 13, 5},
        {6, 8, 4, 1, 0, 3, 5, 2, 7}};

    /** A sheet whose entries are the screen's numbers: the picture is of one colour, one to each number. */
    private static DitherDesk screened(int screen, int unit, int side, int way) {
        DitherDesk x = new DitherDesk();
        int base = screen == 2 ? 10 : 8;
        for (int m = 0; m < SCREENS[screen].length; m++) {
            x.entry(0, unit * (screen == 0 ? 4 * m + 2 : screen == 1 ? m + 1 : 2 * m + 2));
        }
        x.picture(0, side, side);
        x.shade(0, unit * base, unit * base);
        x.rule(2, screen);
        x.rule(3, screen == 2 ? 18 : 16);
        is(x.make(0, 0, way), SCREENS[screen].length);
        return x;
    }

    private static void screenIs(int screen, int width) {
        DitherDesk x = screened(screen, 4096, width + 2, SCREEN);
        for (int p = 0; p < (width + 2) * (width + 2); p++) {
            int column = p % (width + 2);
            int row = p / (width + 2);
            is(x.sheet(column, row, 0), SCREENS[screen][row % width * width + column % width]);
        }
    }

    @Says("(x modulo its width, y modulo its width)")
    static void screen0WrapsAroundAt2() {
        screenIs(0, 2);
    }

    @Says("1 of 4: 0 8 2 10, 12 4 14 6, 3 11 1 9, 15 7 13 5")
    static void screen1WrapsAroundAt4() {
        screenIs(1, 4);
    }

    @Says("2 of 3: 6 8 4, 1 0 3, 5 2 7.")
    static void screen2WrapsAroundAt3() {
        screenIs(2, 3);
    }

    @Says("1 of 4: 0 8 2 10, 12 4 14 6, 3 11 1 9, 15 7 13 5; 2 of 3: 6 8 4, 1 0 3, 5 2 7.")
    static void theGreatestNumberOfEachScreen() {
        int[] strength = {16, 16, 18};
        int[][] greatest = {{0, 1, 8}, {0, 3, 10}, {1, 0, 10}}; // 2 + 6, 2 + 7.5, 2 + 8
        for (int screen = 0; screen < 3; screen++) {
            DitherDesk x = onePixel(4, 4, 0, 0, red(2), 0);
            x.shade(0, red(2), red(2));
            x.rule(2, screen);
            x.rule(3, strength[screen]);
            x.make(0, 0, SCREEN);
            is(x.sheet(greatest[screen][0], greatest[screen][1], 0), greatest[screen][2]);
        }
    }

    @Says("(x modulo its width, y modulo its width)")
    static void inTheGreatestPicture() {
        DitherDesk x = screened(1, 4096, 12, SCREEN);
        is(x.sheet(11, 11, 0), 5);
        is(x.sheet(0, 11, 0), 15);
        is(x.sheet(11, 0, 0), 10);
        is(x.sheet(8, 8, 0), 0);
    }

    @Says("TURNED: by red as SCREEN")
    static void turnedByRed() {
        DitherDesk x = screened(0, 4096, 3, TURNED);
        sheetIs(x, 0, 2, 0, 3, 1, 3, 0, 2, 0);
    }

    @Says("by green m stands at (y modulo .., x modulo ..)")
    static void turnedByGreen() {
        DitherDesk x = screened(0, 64, 3, TURNED);
        sheetIs(x, 0, 3, 0, 2, 1, 2, 0, 3, 0);
        DitherDesk y = screened(2, 64, 4, TURNED);
        sheetIs(y, 6, 1, 5, 6, 8, 0, 2, 8, 4, 3, 7, 4, 6, 1, 5, 6);
    }

    @Says("by blue m is N less 1 less that of SCREEN")
    static void turnedByBlue() {
        DitherDesk x = screened(0, 1, 3, TURNED);
        sheetIs(x, 3, 1, 3, 0, 2, 0, 3, 1, 3);
        DitherDesk y = screened(2, 1, 3, TURNED);
        sheetIs(y, 2, 0, 4, 7, 8, 5, 3, 6, 1);
    }

    @Says("3 STRENGTH (0 .. 63)")
    static void withoutStrengthScreenIsPlain() {
        DitherDesk x = new DitherDesk();
        x.rule(3, 0);
        Due.mix(x, 0, red(0), red(63));
        Due.row(x, 0, red(31), red(32), red(31), red(32));
        x.make(0, 0, SCREEN);
        sheetIs(x, 0, 1, 0, 1);
        x.make(0, 0, TURNED);
        sheetIs(x, 0, 1, 0, 1);
    }

    @Says("3 STRENGTH (0 .. 63)")
    static void withTheGreatestStrength() {
        DitherDesk x = new DitherDesk();
        x.rule(2, 1);
        x.rule(3, 63);
        Due.mix(x, 0, red(0), red(61), red(2));
        Due.row(x, 0, red(30), red(30), red(30), red(30));
        // 0.46875, 31.96875, 8.34375, 39.84375
        x.make(0, 0, SCREEN);
        sheetIs(x, 0, 1, 2, 1);
    }

    @Says("make() 1")
    static void eachCounts1() {
        DitherDesk x = plainDesk();
        for (int way = 0; way < 5; way++) {
            x.make(1, 2, way);
            is(x.count(6), way + 1);
        }
    }

    @Says("THE SHEET is MADE from a PICTURE by a PALETTE (that has ENTRIES)")
    static void pictureAndPaletteStay() {
        DitherDesk x = onePixel(3, 2, 1, 0, red(31), 2);
        x.lock(0, 3, true);
        x.make(0, 0, SPREAD);
        pixelsAre(x, 0, 0, red(31), 0, 0, 0, 0);
        is(x.count(1), 16);
        is(x.told(0, 15, 0), red(15));
        is(x.told(0, 3, 1), 1);
    }
}
