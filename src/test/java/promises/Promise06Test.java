/** Promise 6: pixel. */
final class Promise06Test extends Promise {
    public static void main(String[] args) {
        runTestsOf(Promise06Test.class);
    }

    private static DitherDesk sixPixels() {
        DitherDesk x = new DitherDesk();
        x.picture(3, 3, 2);
        for (int p = 0; p < 6; p++) {
            x.paint(3, p % 3, p / 3, 100 + p);
        }
        return x;
    }

    @Says("A PIXEL's COLOUR.")
    static void theFirstAndTheLast() {
        DitherDesk x = sixPixels();
        is(x.pixel(3, 0, 0), 100);
        is(x.pixel(3, 2, 0), 102);
        is(x.pixel(3, 0, 1), 103);
        is(x.pixel(3, 2, 1), 105);
    }

    @Says("WIDE times HIGH PIXELS (1 .. 12 each), each a COLOUR")
    static void theLastOfTheGreatest() {
        DitherDesk x = new DitherDesk();
        x.picture(0, 12, 12);
        x.paint(0, 11, 11, WHITE);
        is(x.pixel(0, 11, 11), WHITE);
        is(x.pixel(0, 12, 11), BAD);
        is(x.pixel(0, 11, 12), BAD);
    }

    @Says("BAD (-2) a number is not as told")
    static void badIsXBelow0() {
        DitherDesk x = sixPixels();
        is(x.pixel(3, -1, 0), BAD);
        is(x.pixel(3, -1, 1), BAD);
        is(x.pixel(3, MIN, 0), BAD);
    }

    @Says("BAD (-2) a number is not as told")
    static void badIsXFromWideOn() {
        DitherDesk x = sixPixels();
        is(x.pixel(3, 3, 0), BAD);
        is(x.pixel(3, 11, 0), BAD);
        is(x.pixel(3, MAX, 0), BAD);
    }

    @Says("BAD (-2) a number is not as told")
    static void badIsYBelow0() {
        DitherDesk x = sixPixels();
        is(x.pixel(3, 0, -1), BAD);
        is(x.pixel(3, 2, -1), BAD);
        is(x.pixel(3, 0, MIN), BAD);
    }

    @Says("BAD (-2) a number is not as told")
    static void badIsYFromHighOn() {
        DitherDesk x = sixPixels();
        is(x.pixel(3, 0, 2), BAD);
        is(x.pixel(3, 0, 11), BAD);
        is(x.pixel(3, 0, MAX), BAD);
    }

    @Says("NONE (-1) no such number (a PICTURE that is missing is none)")
    static void noneIsAMissingPicture() {
        DitherDesk x = sixPixels();
        for (int picture : new int[] {0, 1, 2, -1, 4, MIN, MAX}) {
            is(x.pixel(picture, 0, 0), NONE);
        }
        x.picture(3, 0, 0);
        is(x.pixel(3, 0, 0), NONE);
    }

    @Says("the first that a call's words name")
    static void noneIsAheadOfBad() {
        DitherDesk x = sixPixels();
        is(x.pixel(4, 3, 2), NONE);
        is(x.pixel(0, -1, -1), NONE);
    }
}
