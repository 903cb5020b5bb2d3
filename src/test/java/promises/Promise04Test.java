/** Promise 4: noise. */
final class Promise04Test extends Promise {
    public static void main(String[] args) {
        runTestsOf(Promise04Test.class);
    }

    /** The first three and the last of 144 pixels, reckoned outside Java. */
    private static void drawn(int seed, int first, int second, int third, int last) {
        DitherDesk x = new DitherDesk();
        x.picture(0, 12, 12);
        is(x.noise(0, seed), 144);
        is(x.pixel(0, 0, 0), first);
        is(x.pixel(0, 1, 0), second);
        is(x.pixel(0, 2, 0), third);
        is(x.pixel(0, 11, 11), last);
    }

    @Says("(an int; seed at first)")
    static void seed0() {
        drawn(0, 99027, 58062, 203222, 7990);
    }

    @Says("z * 1103515245 + 12345 (an int; seed at first) anew for each")
    static void wrapsAroundBelow0() {
        drawn(7, 174568, 41474, 85259, 202706); // z is -865315532 at first
        drawn(-1, 200629, 59874, 32207, 128159);
    }

    @Says("z * 1103515245 + 12345 (an int; seed at first) anew for each")
    static void theGreatestAndTheLeastSeed() {
        drawn(MAX, 200629, 59874, 32207, 128159);
        drawn(MIN, 99027, 58062, 203222, 7990);
    }

    @Says("(z >>> 9) % 64")
    static void neverBelow0() {
        DitherDesk x = new DitherDesk();
        x.picture(0, 12, 12);
        for (int seed = -3; seed < 4; seed++) {
            x.noise(0, seed);
            is(x.of(0, 3) >= 0 ? 1 : 0, 1);
            is(x.of(0, 4) <= WHITE ? 1 : 0, 1);
        }
    }

    @Says("All PIXELS become COLOURS by draws (of each red, green, blue)")
    static void onePixel() {
        DitherDesk x = new DitherDesk();
        x.picture(3, 1, 1);
        x.paint(3, 0, 0, WHITE);
        is(x.noise(3, 1), 1);
        is(x.pixel(3, 0, 0), 259634);
    }

    @Says("PIXELS go row by row from the top, in a row from the left.")
    static void rowByRow() {
        DitherDesk x = new DitherDesk();
        x.picture(0, 1, 3);
        is(x.noise(0, 0), 3);
        pixelsAre(x, 0, 99027, 58062, 203222);
        x.picture(0, 2, 2);
        x.noise(0, 0);
        is(x.pixel(0, 0, 1), 203222);
    }

    @Says("NONE (-1) no such number (a PICTURE that is missing is none)")
    static void noneIsAMissingPicture() {
        DitherDesk x = new DitherDesk();
        x.picture(1, 1, 1);
        is(x.noise(0, 1), NONE);
        is(x.noise(-1, 1), NONE);
        is(x.noise(4, 1), NONE);
        is(x.noise(MIN, 1), NONE);
        is(x.noise(MAX, 1), NONE);
        x.picture(1, 0, 1);
        is(x.noise(1, 1), NONE);
    }

    @Says("What is answered so changes nothing.")
    static void refusedPicturesStay() {
        DitherDesk x = new DitherDesk();
        Due.row(x, 0, 7, 8);
        Due.row(x, 3, 9);
        x.noise(-1, 1);
        x.noise(4, 1);
        x.noise(1, 1);
        pixelsAre(x, 0, 7, 8);
        pixelsAre(x, 3, 9);
        is(x.count(0), 2);
    }
}
