/** Counts the answers that are not the ones due, and ends the test with exit code 1 if there was one. */
final class Due {
    private final String test;
    private String where = "";
    private int looked;
    private int wrong;

    Due(String test) {
        this.test = test;
    }

    void promise(int number) {
        where = "promise " + number;
    }

    void is(String call, long got, long want) {
        looked++;
        if (got != want) {
            wrong++;
            System.out.println(test + ", " + where + ": " + call + " answered " + got + ", due is " + want);
        }
    }

    void holds(String claim, boolean isSo) {
        is(claim, isSo ? 1 : 0, 1);
    }

    void close() {
        System.out.println(test + ": " + looked + " answers looked at, " + wrong + " not as due");
        if (wrong != 0 || looked == 0) {
            System.exit(1);
        }
    }

    static int rgb(int red, int green, int blue) {
        return 4096 * red + 64 * green + blue;
    }

    static void feedAll(DitherDesk desk, String text) {
        for (char sign : text.toCharArray()) {
            desk.feed(sign);
        }
    }

    /** Reads a text into a palette: what read() answers. */
    static int readAll(DitherDesk desk, int palette, String text) {
        feedAll(desk, text);
        return desk.read(palette);
    }

    /**
     * Brings WORK to a number by calls that change nothing else but picture 3 and palette 3.
     */
    static void spend(DitherDesk desk, int work) {
        desk.picture(3, 1, 1);
        desk.entry(3, 0);
        // counted loops: a desk that counts wrongly must not keep the test from its end
        for (int i = 0; i < 93 && desk.count(6) + 64 <= work; i++) {
            desk.fits(3, 3, 0);
        }
        for (int i = 0; i < 3 && desk.count(6) + 17 <= work; i++) {
            desk.spared(3, 3, 0);
        }
        for (int i = 0; i < 3 && desk.count(6) + 5 <= work; i++) {
            desk.best(3, 3, 0);
        }
        for (int i = 0; i < 4 && desk.count(6) < work; i++) {
            desk.box(3, 1, 0, 0);
        }
    }

    /** A picture one row high. */
    static void row(DitherDesk desk, int picture, int... colours) {
        desk.picture(picture, colours.length, 1);
        for (int x = 0; x < colours.length; x++) {
            desk.paint(picture, x, 0, colours[x]);
        }
    }

    /** A palette of just these entries, none locked. */
    static void mix(DitherDesk desk, int palette, int... colours) {
        for (int e = 0; e < 16 && desk.told(palette, 0, 0) >= 0; e++) {
            desk.drop(palette, 0);
        }
        for (int colour : colours) {
            desk.entry(palette, colour);
        }
    }
}
