/** Promise 11: box. */
final class Promise11Test extends Promise {
    public static void main(String[] args) {
        runTestsOf(Promise11Test.class);
    }

    /** What 0 pixels, 1 unlike colours, 2 mean, 3 span, 4 the least colour. */
    private static void boxIs(DitherDesk x, int n, int i, int... told) {
        for (int what = 0; what < told.length; what++) {
            is(x.box(0, n, i, what), told[what]);
        }
    }

    private static DitherDesk rowOf(int... colours) {
        DitherDesk x = new DitherDesk();
        Due.row(x, 0, colours);
        return x;
    }

    @Says("at first there is one BOX, of all its unlike COLOURS, with how many PIXELS each has")
    static void oneBoxIsAll() {
        DitherDesk x = rowOf(red(4), red(0), red(4), red(9));
        boxIs(x, 1, 0, 4, 3, red(4), 9, 0); // 17 of 4 is 4.25
        is(x.box(0, 1, 1, 0), BAD);
    }

    @Says("As long as there are fewer BOXES than n, and one has a SPAN above 0")
    static void ofOneColourThereIsOneBox() {
        DitherDesk x = new DitherDesk();
        x.picture(0, 12, 12);
        boxIs(x, 16, 0, 144, 1, 0, 0, 0);
        is(x.box(0, 16, 1, 0), BAD);
    }

    @Says("As long as there are fewer BOXES than n, and one has a SPAN above 0")
    static void noMoreBoxesThanColours() {
        DitherDesk x = rowOf(5, 7, 9);
        for (int i = 0; i < 3; i++) {
            boxIs(x, 16, i, 1, 1, 5 + 2 * i, 0, 5 + 2 * i);
        }
        is(x.box(0, 16, 3, 0), BAD);
    }

    @Says("As long as there are fewer BOXES than n, and one has a SPAN above 0")
    static void aSpanOf1IsCut() {
        DitherDesk x = rowOf(5, 6);
        boxIs(x, 1, 0, 2, 2, 6, 1, 5);
        boxIs(x, 2, 0, 1, 1, 5, 0, 5);
        boxIs(x, 2, 1, 1, 1, 6, 0, 6);
    }

    @Says("Of BOX i of a PICTURE CUT into n (1 .. 16)")
    static void sixteenBoxesOfSeventeenColours() {
        DitherDesk x = new DitherDesk();
        x.picture(0, 12, 2);
        for (int p = 0; p < 24; p++) {
            x.paint(0, p % 12, p / 12, p < 17 ? p : 0);
        }
        is(x.box(0, 16, 15, 4), 16);
        is(x.box(0, 16, 16, 0), BAD);
        int pixels = 0;
        int colours = 0;
        for (int i = 0; i < 16; i++) {
            pixels += x.box(0, 16, i, 0);
            colours += x.box(0, 16, i, 1);
        }
        is(pixels, 24);
        is(colours, 17);
    }

    @Says("BAD: n;")
    static void badIsNBelow1() {
        DitherDesk x = rowOf(5, 7, 9);
        is(x.box(0, 0, 0, 0), BAD);
        is(x.box(0, -1, 0, 0), BAD);
        is(x.box(0, MIN, 0, 0), BAD);
        is(x.count(6), 0);
    }

    @Says("BAD: n;")
    static void badIsNAbove16() {
        DitherDesk x = rowOf(5, 7, 9);
        is(x.box(0, 17, 0, 0), BAD);
        is(x.box(0, MAX, 0, 0), BAD);
        is(x.count(6), 0);
        is(x.box(0, 16, 0, 0), 1);
    }

    @Says("BAD: there is no i-th (nothing is counted then).")
    static void badIsIBelow0() {
        DitherDesk x = rowOf(5, 7, 9);
        is(x.box(0, 2, -1, 0), BAD);
        is(x.box(0, 2, MIN, 0), BAD);
        is(x.count(6), 0);
    }

    @Says("BAD: there is no i-th (nothing is counted then).")
    static void badIsIFromHowManyThereAreOn() {
        DitherDesk x = rowOf(5, 7, 9);
        is(x.box(0, 2, 2, 0), BAD);
        is(x.box(0, 16, 3, 0), BAD);
        is(x.box(0, 16, MAX, 0), BAD);
        is(x.count(6), 0);
        is(x.box(0, 2, 1, 0), 1);
        is(x.count(6), 1);
    }

    @Says("NONE: picture, what;")
    static void noneIsAMissingPicture() {
        DitherDesk x = rowOf(5, 7, 9);
        for (int picture : new int[] {1, 2, 3, -1, 4, MIN, MAX}) {
            is(x.box(picture, 1, 0, 0), NONE);
        }
        x.picture(0, 0, 1);
        is(x.box(0, 1, 0, 0), NONE);
        is(x.count(6), 0);
    }

    @Says("NONE: picture, what;")
    static void noneIsAWhatBelowOrAbove() {
        DitherDesk x = rowOf(5, 7, 9);
        is(x.box(0, 1, 0, -1), NONE);
        is(x.box(0, 1, 0, 5), NONE);
        is(x.box(0, 1, 0, MIN), NONE);
        is(x.box(0, 1, 0, MAX), NONE);
        is(x.count(6), 0);
    }

    @Says("the first that a call's words name")
    static void noneIsAheadOfBad() {
        DitherDesk x = rowOf(5, 7, 9);
        is(x.box(1, 0, 0, 0), NONE);
        is(x.box(0, 17, 0, 5), NONE);
        is(x.box(0, 1, 9, -1), NONE);
    }

    @Says("Its SPAN on a CHANNEL is the greatest less the least of its COLOURS there")
    static void theGreatestSpanIs63() {
        DitherDesk x = rowOf(red(63), red(0));
        boxIs(x, 1, 0, 2, 2, red(32), 63, 0);
    }

    @Says("its CHANNEL is that of the greatest SPAN, of like ones the first")
    static void ofLikeSpansTheFirstChannel() {
        // red and green span 10 each: by red the one of green 5, 0 are together; by green 0 and 5
        int a = Due.rgb(0, 10, 0), b = Due.rgb(5, 0, 0), c = Due.rgb(10, 5, 0);
        DitherDesk x = rowOf(c, b, a);
        boxIs(x, 2, 0, 2, 2, Due.rgb(3, 5, 0), 10, a);
        boxIs(x, 2, 1, 1, 1, c, 0, c);
        int d = Due.rgb(0, 0, 10), e = green(5), f = Due.rgb(0, 10, 5);
        DitherDesk y = rowOf(f, e, d);
        boxIs(y, 2, 0, 2, 2, Due.rgb(0, 3, 5), 10, d);
        boxIs(y, 2, 1, 1, 1, f, 0, f);
    }

    @Says("one is cut: that of the greatest SPAN")
    static void theGreatestSpanIsCut() {
        DitherDesk x = rowOf(red(0), red(4), red(40), red(45));
        boxIs(x, 3, 0, 2, 2, red(2), 4, red(0));
        boxIs(x, 3, 1, 1, 1, red(40), 0, red(40));
        boxIs(x, 3, 2, 1, 1, red(45), 0, red(45));
    }

    @Says("of like ones that with most PIXELS")
    static void ofLikeSpansThatWithMostPixels() {
        DitherDesk x = rowOf(red(0), red(4), red(40), red(44), red(44));
        boxIs(x, 3, 0, 2, 2, red(2), 4, red(0));
        boxIs(x, 3, 1, 1, 1, red(40), 0, red(40));
        boxIs(x, 3, 2, 2, 1, red(44), 0, red(44));
    }

    @Says("of like ones that with the least COLOUR (by NUMBERS)")
    static void ofLikePixelsThatWithTheLeastColour() {
        int a = Due.rgb(10, 0, 0), b = Due.rgb(10, 4, 0), c = Due.rgb(0, 40, 0), d = Due.rgb(0, 44, 0);
        DitherDesk x = rowOf(a, b, c, d);
        boxIs(x, 3, 0, 1, 1, c, 0, c);
        boxIs(x, 3, 1, 1, 1, d, 0, d);
        boxIs(x, 3, 2, 2, 2, Due.rgb(10, 2, 0), 4, a);
    }

    @Says("Its COLOURS stand by its CHANNEL, of like ones by NUMBERS")
    static void likeOnesOnTheChannelStandByNumbers() {
        DitherDesk x = rowOf(Due.rgb(5, 2, 0), Due.rgb(5, 0, 0), Due.rgb(5, 1, 0), Due.rgb(0, 3, 0));
        boxIs(x, 2, 0, 2, 2, Due.rgb(3, 2, 0), 5, Due.rgb(0, 3, 0));
        boxIs(x, 2, 1, 2, 2, Due.rgb(5, 2, 0), 1, Due.rgb(5, 1, 0));
    }

    @Says("Its COLOURS stand by its CHANNEL, of like ones by NUMBERS")
    static void byGreenWithTheirPixels() {
        // by green 0, 5, 5, 5, 9; by numbers the three of 5 would be first
        int d = green(5);
        DitherDesk x = rowOf(d, d, d, Due.rgb(1, 0, 0), Due.rgb(1, 9, 0));
        boxIs(x, 2, 0, 4, 2, Due.rgb(0, 4, 0), 5, d);
        boxIs(x, 2, 1, 1, 1, Due.rgb(1, 9, 0), 0, Due.rgb(1, 9, 0));
    }

    @Says("Its COLOURS stand by its CHANNEL, of like ones by NUMBERS")
    static void byBlueWithTheirPixels() {
        // by blue 0, 4, 4, 4, 9
        int d = 4;
        DitherDesk x = rowOf(Due.rgb(0, 1, 9), Due.rgb(0, 1, 0), d, d, d);
        boxIs(x, 2, 0, 4, 2, 3, 4, d);
        boxIs(x, 2, 1, 1, 1, Due.rgb(0, 1, 9), 0, Due.rgb(0, 1, 9));
    }

    @Says("up to the first one with which they have half of its PIXELS or more")
    static void justHalfIsEnough() {
        DitherDesk x = rowOf(0, 0, 1, 2);
        boxIs(x, 2, 0, 2, 1, 0, 0, 0);
        boxIs(x, 2, 1, 2, 2, 2, 1, 1);
    }

    @Says("up to the first one with which they have half of its PIXELS or more")
    static void lessThanHalfIsNot() {
        DitherDesk x = rowOf(0, 0, 1, 2, 2);
        boxIs(x, 2, 0, 3, 2, 0, 1, 0);
        boxIs(x, 2, 1, 2, 1, 2, 0, 2);
    }

    @Says("(but never the last one of all)")
    static void neverTheLastOne() {
        DitherDesk x = rowOf(1, 6, 6, 6, 6, 6);
        boxIs(x, 2, 0, 1, 1, 1, 0, 1);
        boxIs(x, 2, 1, 5, 1, 6, 0, 6);
        DitherDesk y = rowOf(1, 2, 6, 6, 6, 6, 6);
        boxIs(y, 2, 0, 2, 2, 2, 1, 1);
        boxIs(y, 2, 1, 5, 1, 6, 0, 6);
    }

    @Says("by how many they are, to the nearest (halves up)")
    static void halvesUp() {
        DitherDesk x = rowOf(Due.rgb(0, 10, 62), Due.rgb(1, 11, 63));
        is(x.box(0, 1, 0, 2), Due.rgb(1, 11, 63));
    }

    @Says("by how many they are, to the nearest (halves up)")
    static void thirdsToTheNearest() {
        DitherDesk x = rowOf(Due.rgb(0, 0, 63), Due.rgb(0, 1, 63), Due.rgb(1, 1, 62));
        is(x.box(0, 1, 0, 2), Due.rgb(0, 1, 63)); // 1, 2 and 188 of 3
    }

    @Says("by how many they are, to the nearest (halves up)")
    static void justBelowAHalfDown() {
        DitherDesk x = rowOf(0, 0, 0, 1, 1);
        is(x.box(0, 1, 0, 2), 0);
        DitherDesk y = rowOf(0, 0, 1, 1, 1);
        is(y.box(0, 1, 0, 2), 1);
    }

    @Says("BOXES stand by their least COLOURS.")
    static void byTheirLeastColours() {
        // cut by green, the half of the lesser greens having the greater numbers
        int a = Due.rgb(10, 0, 0), b = Due.rgb(10, 4, 0), c = Due.rgb(0, 40, 0), d = Due.rgb(0, 44, 0);
        DitherDesk x = rowOf(a, b, c, d);
        boxIs(x, 2, 0, 2, 2, Due.rgb(0, 42, 0), 4, c);
        boxIs(x, 2, 1, 2, 2, Due.rgb(10, 2, 0), 4, a);
    }

    @Says("a CUT 1 (box() too)")
    static void eachCounts1() {
        DitherDesk x = rowOf(5, 7, 9);
        x.box(0, 1, 0, 0);
        is(x.count(6), 1);
        x.box(0, 16, 2, 4);
        is(x.count(6), 2);
    }

    @Says("6000 in all: what would be more is FULL (and isn't counted)")
    static void theLastWorkAndOneMore() {
        DitherDesk x = worked(5999);
        is(x.box(3, 1, 0, 0), 1);
        is(x.count(6), 6000);
        is(x.box(3, 1, 0, 0), FULL);
        is(x.count(6), 6000);
    }

    @Says("(box(): ahead of its last BAD)")
    static void fullIsAheadOfThatThereIsNoIth() {
        DitherDesk x = worked(6000);
        is(x.box(3, 1, 1, 0), FULL);
        is(x.box(3, 1, -1, 0), FULL);
    }

    @Says("BAD: n; FULL: WORK; BAD: there is no i-th")
    static void noneAndBadNAreAheadOfFull() {
        DitherDesk x = worked(6000);
        is(x.box(3, 0, 0, 0), BAD);
        is(x.box(3, 17, 0, 0), BAD);
        is(x.box(0, 1, 0, 0), NONE);
        is(x.box(3, 1, 0, 5), NONE);
    }

    @Says("BAD: there is no i-th (nothing is counted then).")
    static void badJustBelow6000IsNotCounted() {
        DitherDesk x = worked(5999);
        is(x.box(3, 1, 1, 0), BAD);
        is(x.count(6), 5999);
        is(x.box(3, 1, 0, 0), 1);
    }

    @Says("Of BOX i of a PICTURE CUT into n")
    static void thePictureStays() {
        DitherDesk x = rowOf(9, 5, 7);
        x.box(0, 3, 0, 0);
        pixelsAre(x, 0, 9, 5, 7);
    }
}
