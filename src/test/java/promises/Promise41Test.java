/** Promise 41: undo. */
final class Promise41Test extends Promise {
    public static void main(String[] args) {
        runTestsOf(Promise41Test.class);
    }

    @Says("STATE: there is none.")
    static void stateWithoutAnImage() {
        DitherDesk x = new DitherDesk();
        is(x.undo(), STATE);
        x.picture(0, 1, 1);
        x.entry(0, 5);
        is(x.undo(), STATE);
        is(x.count(0), 1);
        is(x.count(1), 1);
    }

    @Says("All is as THE IMAGE: how many PICTURES there are.")
    static void nothingHasChanged() {
        DitherDesk x = new DitherDesk();
        Due.row(x, 0, 5, 6);
        x.image();
        is(x.undo(), 1);
        pixelsAre(x, 0, 5, 6);
    }

    @Says("All is as THE IMAGE: how many PICTURES there are.")
    static void againAndAgain() {
        DitherDesk x = new DitherDesk();
        Due.row(x, 0, 5, 6);
        x.image();
        for (int i = 0; i < 3; i++) {
            x.paint(0, 1, 0, 9);
            is(x.undo(), 1);
            pixelsAre(x, 0, 5, 6);
        }
    }

    @Says("THE IMAGE: PICTURES, PALETTES")
    static void picturesThatCameOrWent() {
        DitherDesk x = new DitherDesk();
        Due.row(x, 0, 5, 6, 7);
        x.picture(3, 12, 12);
        x.noise(3, 1);
        int last = x.pixel(3, 11, 11);
        is(x.image(), 2);
        x.picture(0, 2, 2);
        x.picture(1, 1, 1);
        x.picture(2, 1, 1);
        x.picture(3, 0, 0);
        is(x.undo(), 2);
        pixelsAre(x, 0, 5, 6, 7);
        is(x.of(1, 0), NONE);
        is(x.of(2, 0), NONE);
        is(x.of(3, 0), 12);
        is(x.of(3, 1), 12);
        is(x.pixel(3, 11, 11), last);
    }

    @Says("THE IMAGE: PICTURES, PALETTES")
    static void fullAndEmptyPalettes() {
        DitherDesk x = new DitherDesk();
        for (int e = 0; e < 16; e++) {
            x.entry(3, e);
        }
        x.lock(3, 15, true);
        x.image();
        x.entry(0, 5);
        for (int e = 0; e < 16; e++) {
            x.drop(3, 0);
        }
        is(x.undo(), 0);
        is(x.count(1), 16);
        is(x.told(0, 0, 0), NONE);
        is(x.told(3, 15, 0), 15);
        is(x.told(3, 15, 1), 1);
        is(x.told(3, 14, 1), 0);
    }

    @Says("THE METRIC, THE KERNEL, THE SCREEN, STRENGTH, THE SHEET")
    static void rules() {
        DitherDesk x = new DitherDesk();
        int[] values = {3, 4, 2, 63};
        for (int what = 0; what < 4; what++) {
            x.rule(what, values[what]);
        }
        x.image();
        for (int what = 0; what < 4; what++) {
            x.rule(what, 1);
        }
        x.undo();
        for (int what = 0; what < 4; what++) {
            is(x.rule(what, 0), values[what]);
        }
    }

    @Says("STRENGTH, THE SHEET, SEEN")
    static void noSheetWasMadeThen() {
        DitherDesk x = new DitherDesk();
        x.picture(0, 1, 1);
        x.entry(0, 0);
        x.image();
        x.make(0, 0, 3);
        x.undo();
        is(x.sum(13), NO);
        is(x.sheet(0, 0, 0), STATE);
        is(x.used(0), STATE);
        is(x.taken(0), NOTHING);
        x.tape(0, 0, 0);
        is(x.judge(0, 0), NEVER);
    }

    @Says("STRENGTH, THE SHEET, SEEN")
    static void theSheetOfThen() {
        DitherDesk x = new DitherDesk();
        x.rule(1, 1);
        x.picture(0, 12, 12);
        x.shade(0, 0, red(63));
        Due.mix(x, 0, red(50), red(0));
        x.make(0, 0, 2);
        long error = x.sum(0);
        long lost = x.sum(10);
        long runs = x.sum(8);
        x.image();
        x.picture(1, 12, 12);
        Due.mix(x, 1, 7, 8, 0);
        x.make(1, 1, 4);
        x.picture(2, 1, 1);
        x.make(2, 1, 3);
        x.undo();
        is(x.sum(13), 2);
        is(x.sum(14), 12);
        is(x.sum(15), 12);
        is(x.sum(0), error);
        is(x.sum(10), lost);
        is(x.sum(8), runs);
        is(x.sheet(0, 0, 0), 1);
        is(x.sheet(0, 0, 1), red(0));
        is(x.sheet(11, 11, 0), 0);
        is(x.sheet(11, 11, 1), red(50));
        is(x.sheet(11, 11, 2), red(63));
        is(x.used(2), 0);
    }

    @Says("SEEN, the PLAN, the BOOK")
    static void seenPlanAndBook() {
        DitherDesk x = new DitherDesk();
        x.picture(0, 1, 1);
        x.entry(0, 0);
        for (int i = 0; i < 6; i++) {
            x.see(0, 0, i == 5 ? 1 : 0);
        }
        for (int i = 0; i < 8; i++) {
            x.plan(i == 7 ? 3 : 1, 0);
            x.book(i == 7 ? 0 : 1, 0);
        }
        x.image();
        x.see(-1, 0, 0);
        x.plan(-1, 0);
        x.book(-1, 0);
        x.see(0, 0, 0);
        x.plan(1, 0);
        x.book(1, 0);
        x.undo();
        is(x.count(2), 6);
        is(x.count(3), 8);
        is(x.count(4), 8);
        is(x.fits(0, 0, 0), 0);
        is(x.ends(0), NEVER);
        is(x.looked(), 7);
    }

    @Says("SEEN, the PLAN, the BOOK")
    static void nothingWasSeenPlannedOrBookedThen() {
        DitherDesk x = new DitherDesk();
        x.image();
        x.see(0, 0, 0);
        x.plan(1, 0);
        x.book(1, 1);
        x.undo();
        is(x.count(2), 0);
        is(x.count(3), 0);
        is(x.count(4), 0);
        is(x.looked(), NEVER);
    }

    @Says("(not THE TEXT, TAPES, WORK)")
    static void theTextStays() {
        DitherDesk x = new DitherDesk();
        x.feed('1');
        x.image();
        Due.feedAll(x, ",2,3");
        x.undo();
        is(x.count(5), 5);
        is(x.read(0), 1);
        x.undo();
        is(x.count(5), 0);
        is(x.count(1), 0);
    }

    @Says("(not THE TEXT, TAPES, WORK)")
    static void tapesStay() {
        DitherDesk x = new DitherDesk();
        tapeOf(x, 0, 1, 5, 6);
        tapeOf(x, 1, 0, 7);
        x.image();
        x.item(0, 1, 9);
        x.tape(1, -1, 0);
        tapeOf(x, 2, 2, 8);
        x.undo();
        tapeIs(x, 0, 5, 9);
        is(x.item(1, 0, 0), NOTHING);
        tapeIs(x, 2, 8);
    }

    @Says("(not THE TEXT, TAPES, WORK)")
    static void workStays() {
        DitherDesk x = worked(5999);
        x.image();
        is(x.box(3, 1, 0, 0), 1);
        is(x.undo(), 1);
        is(x.count(6), 6000);
        is(x.box(3, 1, 0, 0), FULL);
    }

    @Says("THE IMAGE: PICTURES, PALETTES, THE METRIC")
    static void theImageIsNotOneOfAnotherObject() {
        DitherDesk x = new DitherDesk();
        x.image();
        is(new DitherDesk().undo(), STATE);
    }
}
