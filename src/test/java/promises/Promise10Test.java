/** Promise 10: mean. */
final class Promise10Test extends Promise {
    public static void main(String[] args) {
        runTestsOf(Promise10Test.class);
    }

    private static void meanIs(DitherDesk x, int picture, int channel, long above, long below) {
        is(x.mean(picture, channel, 0), above);
        is(x.mean(picture, channel, 1), below);
    }

    @Says("MEAN of a CHANNEL of a PICTURE, by its PIXELS: a fraction in lowest terms.")
    static void of0It0By1() {
        DitherDesk x = new DitherDesk();
        x.picture(0, 12, 12);
        meanIs(x, 0, 0, 0, 1);
        meanIs(x, 0, 1, 0, 1);
        meanIs(x, 0, 2, 0, 1);
    }

    @Says("MEAN of a CHANNEL of a PICTURE, by its PIXELS: a fraction in lowest terms.")
    static void ofTheGreatestIt63By1() {
        DitherDesk x = new DitherDesk();
        x.picture(0, 12, 12);
        x.shade(0, WHITE, WHITE);
        meanIs(x, 0, 0, 63, 1);
        meanIs(x, 0, 1, 63, 1);
        meanIs(x, 0, 2, 63, 1);
    }

    @Says("a fraction in lowest terms.")
    static void thatIsInLowestTermsAlready() {
        DitherDesk x = new DitherDesk();
        x.picture(0, 12, 12);
        x.paint(0, 11, 11, Due.rgb(1, 5, 35));
        meanIs(x, 0, 0, 1, 144);
        meanIs(x, 0, 1, 5, 144);
        meanIs(x, 0, 2, 35, 144);
    }

    @Says("a fraction in lowest terms.")
    static void thatCanBeLowered() {
        DitherDesk x = new DitherDesk();
        x.picture(0, 12, 12);
        x.paint(0, 0, 0, Due.rgb(48, 63, 10));
        meanIs(x, 0, 0, 1, 3);
        meanIs(x, 0, 1, 7, 16);
        meanIs(x, 0, 2, 5, 72);
    }

    @Says("MEAN of a CHANNEL of a PICTURE, by its PIXELS")
    static void ofOnePixel() {
        DitherDesk x = new DitherDesk();
        Due.row(x, 3, Due.rgb(1, 0, 63));
        meanIs(x, 3, 0, 1, 1);
        meanIs(x, 3, 1, 0, 1);
        meanIs(x, 3, 2, 63, 1);
    }

    @Says("NO: picture, channel, part.")
    static void noIsAMissingPicture() {
        DitherDesk x = new DitherDesk();
        x.picture(1, 1, 1);
        for (int picture : new int[] {0, 2, 3, -1, 4, MIN, MAX}) {
            is(x.mean(picture, 0, 0), NO);
        }
        x.picture(1, 0, 1);
        is(x.mean(1, 0, 1), NO);
    }

    @Says("NO: picture, channel, part.")
    static void noIsAChannelBelowOrAbove() {
        DitherDesk x = new DitherDesk();
        x.picture(1, 1, 1);
        is(x.mean(1, -1, 0), NO);
        is(x.mean(1, 3, 0), NO);
        is(x.mean(1, MIN, 1), NO);
        is(x.mean(1, MAX, 1), NO);
        is(x.mean(1, 2, 1), 1);
    }

    @Says("NO: picture, channel, part.")
    static void noIsAPartBelowOrAbove() {
        DitherDesk x = new DitherDesk();
        x.picture(1, 1, 1);
        is(x.mean(1, 0, -1), NO);
        is(x.mean(1, 0, 2), NO);
        is(x.mean(1, 0, MIN), NO);
        is(x.mean(1, 0, MAX), NO);
    }
}
