/** Promise 1: a new object. */
final class Promise01Test extends Promise {
    public static void main(String[] args) {
        runTestsOf(Promise01Test.class);
    }

    @Says("`DitherDesk()`: No PICTURES, no ENTRIES.")
    static void noPictures() {
        DitherDesk x = new DitherDesk();
        is(x.count(0), 0);
        for (int picture = 0; picture < 4; picture++) {
            for (int what = 0; what < 5; what++) {
                is(x.of(picture, what), NONE);
            }
            is(x.pixel(picture, 0, 0), NONE);
            is(x.noise(picture, 0), NONE);
        }
    }

    @Says("PICTURES 0 .. 3 are missing (as all are at first)")
    static void allPicturesAreMissing() {
        DitherDesk x = new DitherDesk();
        x.entry(0, 0);
        for (int picture = 0; picture < 4; picture++) {
            is(x.make(picture, 0, 0), NONE);
        }
        is(x.image(), 0);
    }

    @Says("PALETTES 0 .. 3 have ENTRIES 0, 1, .. (16 at most; none at first)")
    static void noEntries() {
        DitherDesk x = new DitherDesk();
        is(x.count(1), 0);
        for (int palette = 0; palette < 4; palette++) {
            is(x.told(palette, 0, 0), NONE);
            is(x.nearest(palette, 0), NEVER);
            is(x.entry(palette, 0), 0);
        }
    }

    @Says("THE METRIC (0 at first)")
    static void metricIsSquares() {
        DitherDesk x = new DitherDesk();
        is(x.far(0, Due.rgb(1, 2, 3)), 14);
        is(x.rule(0, 1), 0);
    }

    @Says("THE KERNEL, THE SCREEN are 0, STRENGTH 16 at first.")
    static void rulesAreTheFirstOnes() {
        DitherDesk x = new DitherDesk();
        is(x.rule(1, 1), 0);
        is(x.rule(2, 1), 0);
        is(x.rule(3, 1), 16);
    }

    @Says("TAPES 0 .. 5 hold nothing (at first)")
    static void tapesHoldNothing() {
        DitherDesk x = new DitherDesk();
        for (int tape = 0; tape < 6; tape++) {
            is(x.peek(tape, 0), NO);
            is(x.item(tape, 0, 1), NOTHING);
            is(x.shift(tape, 0, tape, 0, 0), NOTHING);
        }
    }

    @Says("6 WORK.")
    static void nothingIsCounted() {
        DitherDesk x = new DitherDesk();
        for (int what = 0; what < 7; what++) {
            is(x.count(what), 0);
        }
        is(x.looked(), NEVER);
    }

    @Says("none is MADE")
    static void noSheetIsMade() {
        DitherDesk x = new DitherDesk();
        is(x.sheet(0, 0, 0), STATE);
        is(x.sum(0), NO);
        is(x.used(0), STATE);
        is(x.taken(0), NOTHING);
    }

    @Says("No PICTURES, no ENTRIES.")
    static void eachObjectHasItsOwn() {
        DitherDesk x = new DitherDesk();
        DitherDesk y = new DitherDesk();
        x.picture(0, 2, 2);
        x.entry(0, 1);
        x.rule(3, 63);
        x.feed('1');
        x.image();
        is(y.count(0), 0);
        is(y.count(1), 0);
        is(y.count(5), 0);
        is(y.rule(3, 1), 16);
        is(y.undo(), STATE);
        is(new DitherDesk().rule(3, 1), 16);
    }

    @Says("public static final int NONE = -1, BAD = -2, STATE = -3, FULL = -4;")
    static void constants() {
        is(DitherDesk.NONE, -1);
        is(DitherDesk.BAD, -2);
        is(DitherDesk.STATE, -3);
        is(DitherDesk.FULL, -4);
    }

    @Says("`NO = Long.MIN_VALUE`: There is no such number.")
    static void theNumberThatIsNone() {
        is(DitherDesk.NO, Long.MIN_VALUE);
    }

    @Says("An object is used for at most 512 calls after it has been made")
    static void the512thCallIsAnswered() {
        DitherDesk x = new DitherDesk();
        x.picture(0, 12, 12);
        for (int call = 2; call < 512; call++) {
            x.paint(0, call % 12, call / 12 % 12, call);
        }
        is(x.pixel(0, 511 % 12, 511 / 12 % 12), 511);
        DitherDesk y = new DitherDesk();
        for (int call = 1; call < 512; call++) {
            y.entry(0, call);
        }
        is(y.count(1), 16);
    }
}
