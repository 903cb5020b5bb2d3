/** Promise 3: paint. */
final class Promise03Test extends Promise {
    public static void main(String[] args) {
        runTestsOf(Promise03Test.class);
    }

    @Says("A PIXEL becomes a COLOUR: the one it had.")
    static void theOneItHad() {
        DitherDesk x = new DitherDesk();
        x.picture(0, 2, 2);
        is(x.paint(0, 1, 0, 5), 0);
        is(x.paint(0, 1, 0, 5), 5);
        is(x.paint(0, 1, 0, 0), 5);
        is(x.paint(0, 1, 0, 9), 0);
        pixelsAre(x, 0, 0, 9, 0, 0);
    }

    @Says("each 0 .. 63; told as one NUMBER")
    static void theLeastAndTheGreatestColour() {
        DitherDesk x = new DitherDesk();
        x.picture(0, 1, 1);
        is(x.paint(0, 0, 0, 262143), 0);
        is(x.pixel(0, 0, 0), 262143);
        is(x.paint(0, 0, 0, 0), 262143);
        is(x.pixel(0, 0, 0), 0);
    }

    @Says("BAD: x, y, colour.")
    static void badIsAColourBelowOrAbove() {
        DitherDesk x = new DitherDesk();
        x.picture(0, 1, 1);
        is(x.paint(0, 0, 0, -1), BAD);
        is(x.paint(0, 0, 0, 262144), BAD);
        is(x.paint(0, 0, 0, MIN), BAD);
        is(x.paint(0, 0, 0, MAX), BAD);
    }

    @Says("PIXELS go row by row from the top, in a row from the left.")
    static void theFourCorners() {
        DitherDesk x = new DitherDesk();
        x.picture(0, 12, 12);
        x.paint(0, 0, 0, 1);
        x.paint(0, 11, 0, 2);
        x.paint(0, 0, 11, 3);
        x.paint(0, 11, 11, 4);
        is(x.pixel(0, 0, 0), 1);
        is(x.pixel(0, 11, 0), 2);
        is(x.pixel(0, 0, 11), 3);
        is(x.pixel(0, 11, 11), 4);
        is(x.many(0, 0), 140);
    }

    @Says("BAD: x, y, colour.")
    static void badIsXBelow0() {
        DitherDesk x = new DitherDesk();
        x.picture(0, 3, 2);
        is(x.paint(0, -1, 0, 1), BAD);
        is(x.paint(0, -1, 1, 1), BAD);
        is(x.paint(0, MIN, 0, 1), BAD);
        is(x.many(0, 1), 0);
    }

    @Says("BAD: x, y, colour.")
    static void badIsXFromWideOn() {
        DitherDesk x = new DitherDesk();
        x.picture(0, 3, 2);
        is(x.paint(0, 2, 0, 9), 0);
        is(x.paint(0, 3, 0, 1), BAD);
        is(x.paint(0, 3, 1, 1), BAD);
        is(x.paint(0, 11, 0, 1), BAD);
        is(x.paint(0, MAX, 0, 1), BAD);
        is(x.many(0, 1), 0);
    }

    @Says("BAD: x, y, colour.")
    static void badIsYBelow0() {
        DitherDesk x = new DitherDesk();
        x.picture(0, 3, 2);
        is(x.paint(0, 0, -1, 1), BAD);
        is(x.paint(0, 2, -1, 1), BAD);
        is(x.paint(0, 0, MIN, 1), BAD);
        is(x.many(0, 1), 0);
    }

    @Says("BAD: x, y, colour.")
    static void badIsYFromHighOn() {
        DitherDesk x = new DitherDesk();
        x.picture(0, 3, 2);
        is(x.paint(0, 0, 1, 9), 0);
        is(x.paint(0, 0, 2, 1), BAD);
        is(x.paint(0, 0, 11, 1), BAD);
        is(x.paint(0, 0, MAX, 1), BAD);
        is(x.many(0, 1), 0);
    }

    @Says("(a PICTURE that is missing is none)")
    static void noneIsAMissingPicture() {
        DitherDesk x = new DitherDesk();
        x.picture(1, 2, 2);
        is(x.paint(0, 0, 0, 1), NONE);
        is(x.paint(3, 0, 0, 1), NONE);
        x.picture(1, 0, 0);
        is(x.paint(1, 0, 0, 1), NONE);
    }

    @Says("NONE (-1) no such number")
    static void noneBelow0AndAbove3() {
        DitherDesk x = new DitherDesk();
        x.picture(0, 2, 2);
        x.picture(3, 2, 2);
        is(x.paint(-1, 0, 0, 1), NONE);
        is(x.paint(4, 0, 0, 1), NONE);
        is(x.paint(MIN, 0, 0, 1), NONE);
        is(x.paint(MAX, 0, 0, 1), NONE);
        is(x.paint(3, 0, 0, 1), 0);
    }

    @Says("What is answered so changes nothing.")
    static void refusedThePictureStays() {
        DitherDesk x = new DitherDesk();
        Due.row(x, 0, 7, 8, 9);
        x.paint(0, 3, 0, 1);
        x.paint(0, -1, 0, 1);
        x.paint(0, 0, 1, 1);
        x.paint(0, 0, -1, 1);
        x.paint(0, 0, 0, -1);
        x.paint(0, 0, 0, 262144);
        pixelsAre(x, 0, 7, 8, 9);
    }

    @Says("the first that a call's words name")
    static void noneIsAheadOfBad() {
        DitherDesk x = new DitherDesk();
        is(x.paint(0, -1, 0, 1), NONE);
        is(x.paint(4, 0, 0, -1), NONE);
    }
}
