/** Promise 8: many. */
final class Promise08Test extends Promise {
    public static void main(String[] args) {
        runTestsOf(Promise08Test.class);
    }

    @Says("How many PIXELS have a COLOUR.")
    static void noneHasIt() {
        DitherDesk x = new DitherDesk();
        Due.row(x, 1, 9, 5, 9);
        is(x.many(1, 6), 0);
        is(x.many(1, 0), 0);
        is(x.many(1, WHITE), 0);
    }

    @Says("How many PIXELS have a COLOUR.")
    static void allHaveIt() {
        DitherDesk x = new DitherDesk();
        x.picture(1, 12, 12);
        is(x.many(1, 0), 144);
        x.paint(1, 11, 11, 9);
        is(x.many(1, 0), 143);
        is(x.many(1, 9), 1);
    }

    @Says("How many PIXELS have a COLOUR.")
    static void pixelsOfAPictureThatWasGreaterDoNotCount() {
        DitherDesk x = new DitherDesk();
        x.picture(1, 12, 12);
        x.picture(1, 2, 1);
        is(x.many(1, 0), 2);
    }

    @Says("each 0 .. 63; told as one NUMBER: 4096 times red, 64 times green, and blue.")
    static void theLeastAndTheGreatestColour() {
        DitherDesk x = new DitherDesk();
        Due.row(x, 1, 262143, 0, 0);
        is(x.many(1, 262143), 1);
        is(x.many(1, 0), 2);
    }

    @Says("BAD (-2) a number is not as told")
    static void badIsAColourBelowOrAbove() {
        DitherDesk x = new DitherDesk();
        x.picture(1, 2, 2);
        is(x.many(1, -1), BAD);
        is(x.many(1, 262144), BAD);
        is(x.many(1, MIN), BAD);
        is(x.many(1, MAX), BAD);
    }

    @Says("NONE (-1) no such number (a PICTURE that is missing is none)")
    static void noneIsAMissingPicture() {
        DitherDesk x = new DitherDesk();
        x.picture(1, 1, 1);
        for (int picture : new int[] {0, 2, 3, -1, 4, MIN, MAX}) {
            is(x.many(picture, 0), NONE);
        }
        x.picture(1, 0, 1);
        is(x.many(1, 0), NONE);
    }

    @Says("the first that a call's words name")
    static void noneIsAheadOfBad() {
        DitherDesk x = new DitherDesk();
        is(x.many(0, -1), NONE);
        is(x.many(4, 262144), NONE);
    }
}
