/** Promise 7: of. */
final class Promise07Test extends Promise {
    public static void main(String[] args) {
        runTestsOf(Promise07Test.class);
    }

    @Says("Of a PICTURE what 0 WIDE, 1 HIGH")
    static void theLeastAndTheGreatest() {
        DitherDesk x = new DitherDesk();
        x.picture(0, 1, 12);
        is(x.of(0, 0), 1);
        is(x.of(0, 1), 12);
        x.picture(0, 12, 1);
        is(x.of(0, 0), 12);
        is(x.of(0, 1), 1);
    }

    @Says("2 how many unlike COLOURS")
    static void oneColour() {
        DitherDesk x = new DitherDesk();
        x.picture(0, 12, 12);
        is(x.of(0, 2), 1);
        x.picture(1, 1, 1);
        is(x.of(1, 2), 1);
    }

    @Says("2 how many unlike COLOURS")
    static void all144Unlike() {
        DitherDesk x = new DitherDesk();
        x.picture(0, 12, 12);
        for (int p = 0; p < 144; p++) {
            x.paint(0, p % 12, p / 12, 1000 - p);
        }
        is(x.of(0, 2), 144);
        is(x.of(0, 3), 857);
        is(x.of(0, 4), 1000);
    }

    @Says("3 the least NUMBER, 4 the greatest")
    static void theLeastIsTheGreatestOfOneColour() {
        DitherDesk x = new DitherDesk();
        Due.row(x, 0, 5, 5);
        is(x.of(0, 3), 5);
        is(x.of(0, 4), 5);
    }

    @Says("3 the least NUMBER, 4 the greatest")
    static void theLeastAndTheGreatestColour() {
        DitherDesk x = new DitherDesk();
        Due.row(x, 0, 7, 262143, 0, 9);
        is(x.of(0, 3), 0);
        is(x.of(0, 4), 262143);
        is(x.of(0, 2), 4);
    }

    @Says("NONE (-1) no such number (a PICTURE that is missing is none)")
    static void noneIsAMissingPicture() {
        DitherDesk x = new DitherDesk();
        x.picture(2, 1, 1);
        for (int what = 0; what < 5; what++) {
            for (int picture : new int[] {0, 1, 3, -1, 4, MIN, MAX}) {
                is(x.of(picture, what), NONE);
            }
        }
        x.picture(2, 0, 1);
        is(x.of(2, 0), NONE);
    }

    @Says("4 the greatest. NONE.")
    static void noneIsAWhatBelowOrAbove() {
        DitherDesk x = new DitherDesk();
        x.picture(2, 1, 1);
        is(x.of(2, -1), NONE);
        is(x.of(2, 5), NONE);
        is(x.of(2, MIN), NONE);
        is(x.of(2, MAX), NONE);
    }
}
