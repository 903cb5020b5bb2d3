/** Promise 5: shade. */
final class Promise05Test extends Promise {
    public static void main(String[] args) {
        runTestsOf(Promise05Test.class);
    }

    @Says("a, if WIDE is 1")
    static void oneWideIsTheFirst() {
        DitherDesk x = new DitherDesk();
        x.picture(0, 1, 3);
        is(x.shade(0, 77, WHITE), 3);
        pixelsAre(x, 0, 77, 77, 77);
    }

    @Says("at x on each CHANNEL (a times (WIDE less 1 less x), and b times x, together) by (WIDE less 1), cut")
    static void twoWideIsBoth() {
        DitherDesk x = new DitherDesk();
        x.picture(0, 2, 2);
        is(x.shade(0, 77, WHITE), 4);
        pixelsAre(x, 0, 77, WHITE, 77, WHITE);
    }

    @Says("at x on each CHANNEL (a times (WIDE less 1 less x), and b times x, together) by (WIDE less 1), cut")
    static void twelveWide() {
        DitherDesk x = new DitherDesk();
        x.picture(0, 12, 1);
        is(x.shade(0, 0, red(63)), 12);
        // 63 times x by 11
        pixelsAre(x, 0, red(0), red(5), red(11), red(17), red(22), red(28), red(34), red(40), red(45), red(51), red(57), red(63));
    }

    @Says("together) by (WIDE less 1), cut; a, if WIDE is 1")
    static void cutDownwardsToo() {
        DitherDesk x = new DitherDesk();
        x.picture(0, 4, 1);
        x.shade(0, Due.rgb(5, 0, 1), Due.rgb(0, 5, 1));
        pixelsAre(x, 0, Due.rgb(5, 0, 1), Due.rgb(3, 1, 1), Due.rgb(1, 3, 1), Due.rgb(0, 5, 1));
    }

    @Says("All PIXELS become a shade from one COLOUR to another")
    static void fromAColourToItself() {
        DitherDesk x = new DitherDesk();
        x.picture(0, 7, 1);
        is(x.shade(0, WHITE, WHITE), 7);
        is(x.many(0, WHITE), 7);
    }

    @Says("All PIXELS become a shade from one COLOUR to another")
    static void theGreatestPicture() {
        DitherDesk x = new DitherDesk();
        x.picture(3, 12, 12);
        is(x.shade(3, 5, 5), 144);
        is(x.many(3, 5), 144);
    }

    @Says("told as one NUMBER: 4096 times red, 64 times green, and blue.")
    static void theLeastAndTheGreatestColour() {
        DitherDesk x = new DitherDesk();
        x.picture(0, 2, 1);
        is(x.shade(0, 0, 262143), 2);
        pixelsAre(x, 0, 0, 262143);
        is(x.shade(0, 262143, 0), 2);
        pixelsAre(x, 0, 262143, 0);
    }

    @Says("BAD (-2) a number is not as told")
    static void badIsAColourBelowOrAbove() {
        DitherDesk x = new DitherDesk();
        x.picture(0, 2, 1);
        for (int colour : new int[] {-1, 262144, MIN, MAX}) {
            is(x.shade(0, colour, 0), BAD);
            is(x.shade(0, 0, colour), BAD);
        }
    }

    @Says("BAD (-2) a number is not as told")
    static void badIsTheOtherColourWhereWideIs1Too() {
        DitherDesk x = new DitherDesk();
        x.picture(0, 1, 1);
        is(x.shade(0, 5, 262144), BAD);
        is(x.shade(0, 5, -1), BAD);
        is(x.pixel(0, 0, 0), 0);
    }

    @Says("NONE (-1) no such number (a PICTURE that is missing is none)")
    static void noneIsAMissingPicture() {
        DitherDesk x = new DitherDesk();
        x.picture(1, 2, 1);
        for (int picture : new int[] {0, 2, 3, -1, 4, MIN, MAX}) {
            is(x.shade(picture, 0, 1), NONE);
        }
        x.picture(1, 0, 1);
        is(x.shade(1, 0, 1), NONE);
    }

    @Says("What is answered so changes nothing.")
    static void refusedThePictureStays() {
        DitherDesk x = new DitherDesk();
        Due.row(x, 0, 7, 8);
        x.shade(0, 262144, 1);
        x.shade(0, 1, -1);
        x.shade(1, 1, 1);
        pixelsAre(x, 0, 7, 8);
    }

    @Says("the first that a call's words name")
    static void noneIsAheadOfBad() {
        DitherDesk x = new DitherDesk();
        is(x.shade(0, -1, 0), NONE);
        is(x.shade(4, 0, 262144), NONE);
    }
}
