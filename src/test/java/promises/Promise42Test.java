/** Promise 42: count. */
final class Promise42Test extends Promise {
    public static void main(String[] args) {
        runTestsOf(Promise42Test.class);
    }

    @Says("5 bytes of THE TEXT, 6 WORK. BAD.")
    static void badIsAWhatBelowOrAbove() {
        DitherDesk x = new DitherDesk();
        is(x.count(-1), BAD);
        is(x.count(7), BAD);
        is(x.count(MIN), BAD);
        is(x.count(MAX), BAD);
    }

    @Says("How many: 0 PICTURES")
    static void picturesFrom0To4() {
        DitherDesk x = new DitherDesk();
        is(x.count(0), 0);
        for (int picture = 0; picture < 4; picture++) {
            x.picture(picture, 1, 1);
            is(x.count(0), picture + 1);
        }
        x.picture(0, 12, 12);
        is(x.count(0), 4);
        x.picture(0, 0, 0);
        is(x.count(0), 3);
    }

    @Says("1 ENTRIES of all PALETTES")
    static void entriesFrom0To64() {
        DitherDesk x = new DitherDesk();
        is(x.count(1), 0);
        for (int e = 0; e < 64; e++) {
            x.entry(e % 4, e);
            is(x.count(1), e + 1);
        }
        x.entry(0, 99);
        is(x.count(1), 64);
        x.drop(3, 15);
        is(x.count(1), 63);
    }

    @Says("2 SEEN, 3 of the PLAN, 4 of the BOOK")
    static void rowsFrom0ToFull() {
        DitherDesk x = new DitherDesk();
        for (int i = 1; i <= 10; i++) {
            x.see(0, 0, 0);
            x.plan(1, 0);
            x.book(0, 0);
            is(x.count(2), Math.min(i, 6));
            is(x.count(3), Math.min(i, 8));
            is(x.count(4), Math.min(i, 8));
        }
        x.plan(-1, 0);
        is(x.count(2), 6);
        is(x.count(3), 0);
        is(x.count(4), 8);
    }

    @Says("5 bytes of THE TEXT")
    static void bytesFrom0To100() {
        DitherDesk x = new DitherDesk();
        is(x.count(5), 0);
        for (int i = 0; i < 101; i++) {
            x.feed(i);
        }
        is(x.count(5), 100);
        x.read(0);
        is(x.count(5), 0);
    }

    @Says("6000 in all")
    static void workFrom0To6000() {
        DitherDesk x = new DitherDesk();
        is(x.count(6), 0);
        Due.spend(x, 6000);
        is(x.count(6), 6000);
        is(x.box(3, 1, 0, 0), FULL);
        is(x.fits(3, 3, 0), FULL);
        is(x.count(6), 6000);
    }

    @Says("WORK is counted: a CUT 1 (box() too), refine() n (also if it ends earlier), make() 1, best() 5, fits() 64, spared() 17, ends() 1")
    static void workOfEach() {
        DitherDesk x = new DitherDesk();
        x.picture(0, 2, 2);
        x.noise(0, 3);
        x.cut(0, 0, 3);
        is(x.count(6), 1);
        x.box(0, 2, 0, 0);
        is(x.count(6), 2);
        x.refine(0, 0, 20);
        is(x.count(6), 22);
        x.make(0, 0, 4);
        is(x.count(6), 23);
        x.best(0, 0, 0);
        is(x.count(6), 28);
        x.fits(0, 0, 0);
        is(x.count(6), 92);
        x.spared(0, 0, 0);
        is(x.count(6), 109);
        x.ends(0);
        is(x.count(6), 110);
    }

    @Says("WORK is counted")
    static void nothingElseIsWork() {
        DitherDesk x = new DitherDesk();
        x.picture(0, 2, 2);
        x.noise(0, 3);
        x.shade(0, 1, 2);
        x.of(0, 2);
        x.common(0, 0);
        x.mean(0, 0, 0);
        Due.readAll(x, 0, "1,2,3");
        x.nearest(0, 0);
        x.near(0, 0, 0);
        x.odds(0, 0, 0);
        x.looked();
        x.image();
        x.undo();
        is(x.count(6), 0);
    }

    @Says("What is answered so changes nothing.")
    static void whatIsRefusedIsNotCounted() {
        DitherDesk x = new DitherDesk();
        x.picture(0, 2, 2);
        is(x.cut(0, 1, 3), NONE);
        is(x.cut(0, 0, 0), BAD);
        is(x.box(0, 1, 5, 0), BAD);
        is(x.refine(0, 0, 5), STATE);
        is(x.make(0, 0, 0), STATE);
        is(x.best(0, 0, 0), STATE);
        is(x.fits(0, 0, 0), STATE);
        is(x.spared(1, 0, 0), NONE);
        is(x.ends(2), NONE);
        is(x.count(6), 0);
    }
}
