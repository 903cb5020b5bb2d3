/** Promise 9: common. */
final class Promise09Test extends Promise {
    public static void main(String[] args) {
        runTestsOf(Promise09Test.class);
    }

    @Says("(most first; of like ones the lesser NUMBER)")
    static void mostFirst() {
        DitherDesk x = new DitherDesk();
        Due.row(x, 2, 1, 9, 9, 5, 5, 5);
        is(x.common(2, 0), 5);
        is(x.common(2, 1), 9);
        is(x.common(2, 2), 1);
    }

    @Says("(most first; of like ones the lesser NUMBER)")
    static void ofLikeOnesTheLesserNumber() {
        DitherDesk x = new DitherDesk();
        Due.row(x, 2, 9, 262143, 0, 3, 9, 3);
        is(x.common(2, 0), 3);
        is(x.common(2, 1), 9);
        is(x.common(2, 2), 0);
        is(x.common(2, 3), 262143);
    }

    @Says("BAD: there is no k-th.")
    static void oneColourHasNoSecond() {
        DitherDesk x = new DitherDesk();
        x.picture(2, 12, 12);
        is(x.common(2, 0), 0);
        is(x.common(2, 1), BAD);
    }

    @Says("BAD: there is no k-th.")
    static void theLastAndOneBeyond() {
        DitherDesk x = new DitherDesk();
        Due.row(x, 2, 4, 5, 6, 4);
        is(x.common(2, 2), 6);
        is(x.common(2, 3), BAD);
        is(x.common(2, MAX), BAD);
    }

    @Says("BAD: there is no k-th.")
    static void badIsKBelow0() {
        DitherDesk x = new DitherDesk();
        Due.row(x, 2, 4, 5, 6);
        is(x.common(2, -1), BAD);
        is(x.common(2, MIN), BAD);
    }

    @Says("The k-th of its unlike COLOURS by how many PIXELS they have")
    static void all144Unlike() {
        DitherDesk x = new DitherDesk();
        x.picture(0, 12, 12);
        for (int p = 0; p < 144; p++) {
            x.paint(0, p % 12, p / 12, 1000 - p);
        }
        is(x.common(0, 0), 857);
        is(x.common(0, 143), 1000);
        is(x.common(0, 144), BAD);
    }

    @Says("NONE (-1) no such number (a PICTURE that is missing is none)")
    static void noneIsAMissingPicture() {
        DitherDesk x = new DitherDesk();
        x.picture(2, 1, 1);
        for (int picture : new int[] {0, 1, 3, -1, 4, MIN, MAX}) {
            is(x.common(picture, 0), NONE);
        }
        x.picture(2, 0, 1);
        is(x.common(2, 0), NONE);
    }

    @Says("the first that a call's words name")
    static void noneIsAheadOfBad() {
        DitherDesk x = new DitherDesk();
        is(x.common(0, -1), NONE);
        is(x.common(4, 200), NONE);
    }
}
