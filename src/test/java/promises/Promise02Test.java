/** Promise 2: picture. */
final class Promise02Test extends Promise {
    public static void main(String[] args) {
        runTestsOf(Promise02Test.class);
    }

    @Says("PICTURES 0 .. 3")
    static void thereAreFour() {
        DitherDesk x = new DitherDesk();
        for (int picture = 0; picture < 4; picture++) {
            is(x.picture(picture, 1, 1), 1);
            is(x.count(0), picture + 1);
        }
    }

    @Says("NONE (-1) no such number")
    static void noneBelow0AndAbove3() {
        DitherDesk x = new DitherDesk();
        is(x.picture(-1, 1, 1), NONE);
        is(x.picture(4, 1, 1), NONE);
        is(x.picture(MIN, 1, 1), NONE);
        is(x.picture(MAX, 1, 1), NONE);
        is(x.picture(-1, 0, 0), NONE);
        is(x.picture(4, 0, 0), NONE);
        is(x.count(0), 0);
    }

    @Says("WIDE times HIGH PIXELS (1 .. 12 each)")
    static void theLeastIs1By1() {
        DitherDesk x = new DitherDesk();
        is(x.picture(0, 1, 1), 1);
        is(x.of(0, 0), 1);
        is(x.of(0, 1), 1);
        is(x.pixel(0, 0, 0), 0);
    }

    @Says("WIDE times HIGH PIXELS (1 .. 12 each)")
    static void theGreatestIs12By12() {
        DitherDesk x = new DitherDesk();
        is(x.picture(0, 12, 12), 144);
        is(x.of(0, 0), 12);
        is(x.of(0, 1), 12);
        is(x.pixel(0, 11, 11), 0);
    }

    @Says("WIDE times HIGH PIXELS (1 .. 12 each)")
    static void theNarrowestAndTheLowest() {
        DitherDesk x = new DitherDesk();
        is(x.picture(0, 1, 12), 12);
        is(x.picture(1, 12, 1), 12);
        is(x.of(0, 0), 1);
        is(x.of(0, 1), 12);
        is(x.of(1, 0), 12);
        is(x.of(1, 1), 1);
    }

    @Says("BAD (-2) a number is not as told")
    static void badIsWideAbove12() {
        DitherDesk x = new DitherDesk();
        is(x.picture(0, 13, 1), BAD);
        is(x.picture(0, MAX, 1), BAD);
        is(x.count(0), 0);
    }

    @Says("BAD (-2) a number is not as told")
    static void badIsWideBelow0() {
        DitherDesk x = new DitherDesk();
        is(x.picture(0, -1, 1), BAD);
        is(x.picture(0, MIN, 1), BAD);
        is(x.picture(0, -1, -1), BAD);
        is(x.count(0), 0);
    }

    @Says("BAD (-2) a number is not as told")
    static void badIsHighAbove12() {
        DitherDesk x = new DitherDesk();
        is(x.picture(0, 1, 13), BAD);
        is(x.picture(0, 12, 13), BAD);
        is(x.picture(0, 1, MAX), BAD);
        is(x.count(0), 0);
    }

    @Says("BAD (-2) a number is not as told")
    static void badIsHighBelow1() {
        DitherDesk x = new DitherDesk();
        is(x.picture(0, 1, 0), BAD);
        is(x.picture(0, 12, -1), BAD);
        is(x.picture(0, 1, MIN), BAD);
        is(x.count(0), 0);
    }

    @Says("A PICTURE becomes one of so many PIXELS, all of COLOUR 0")
    static void allPixelsAreOfColour0Anew() {
        DitherDesk x = new DitherDesk();
        x.picture(1, 3, 3);
        x.shade(1, WHITE, WHITE);
        is(x.picture(1, 3, 3), 9);
        is(x.many(1, 0), 9);
        x.shade(1, WHITE, WHITE);
        x.picture(1, 1, 1);
        is(x.picture(1, 3, 3), 9);
        is(x.many(1, 0), 9);
    }

    @Says("wide 0: it is missing")
    static void wide0MakesItMissing() {
        DitherDesk x = new DitherDesk();
        x.picture(2, 4, 4);
        is(x.picture(2, 0, 4), 0);
        is(x.of(2, 0), NONE);
        is(x.pixel(2, 0, 0), NONE);
        is(x.count(0), 0);
    }

    @Says("wide 0: it is missing")
    static void wide0OfOneThatIsMissing() {
        DitherDesk x = new DitherDesk();
        is(x.picture(2, 0, 4), 0);
        is(x.of(2, 0), NONE);
        is(x.count(0), 0);
    }

    @Says("(wide 0: it is missing; high does not matter)")
    static void highDoesNotMatterByWide0() {
        DitherDesk x = new DitherDesk();
        for (int high : new int[] {0, -1, 1, 12, 13, MIN, MAX}) {
            x.picture(2, 4, 4);
            is(x.picture(2, 0, high), 0);
            is(x.of(2, 1), NONE);
        }
    }

    @Says("A PICTURE becomes one of so many PIXELS")
    static void othersStay() {
        DitherDesk x = new DitherDesk();
        x.picture(0, 2, 1);
        x.paint(0, 1, 0, 7);
        x.picture(1, 2, 1);
        x.paint(1, 1, 0, 8);
        x.picture(0, 0, 0);
        pixelsAre(x, 1, 0, 8);
        x.picture(0, 2, 1);
        pixelsAre(x, 1, 0, 8);
    }

    @Says("What is answered so changes nothing.")
    static void refusedItStays() {
        DitherDesk x = new DitherDesk();
        Due.row(x, 1, 7, 8);
        is(x.picture(1, 13, 1), BAD);
        is(x.picture(1, 2, 0), BAD);
        is(x.picture(1, 2, 13), BAD);
        is(x.picture(1, -1, 1), BAD);
        is(x.picture(4, 1, 1), NONE);
        pixelsAre(x, 1, 7, 8);
        is(x.count(0), 1);
    }

    @Says("the first that a call's words name")
    static void noneIsAheadOfBad() {
        DitherDesk x = new DitherDesk();
        is(x.picture(4, 13, 1), NONE);
        is(x.picture(-1, 1, 0), NONE);
    }
}
