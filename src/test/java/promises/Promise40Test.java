/** Promise 40: image. */
final class Promise40Test extends Promise {
    public static void main(String[] args) {
        runTestsOf(Promise40Test.class);
    }

    @Says("THE IMAGE is taken: how many PICTURES there are.")
    static void ofANewObject() {
        DitherDesk x = new DitherDesk();
        is(x.image(), 0);
        x.picture(0, 1, 1);
        x.entry(0, 1);
        is(x.undo(), 0);
        is(x.count(0), 0);
        is(x.count(1), 0);
    }

    @Says("THE IMAGE is taken: how many PICTURES there are.")
    static void ofAllPictures() {
        DitherDesk x = new DitherDesk();
        for (int picture = 0; picture < 4; picture++) {
            x.picture(picture, 12, 12);
            is(x.image(), picture + 1);
        }
        x.picture(2, 0, 0);
        is(x.image(), 3);
    }

    @Says("THE IMAGE is taken")
    static void theLastOneHolds() {
        DitherDesk x = new DitherDesk();
        x.picture(0, 1, 1);
        is(x.image(), 1);
        x.paint(0, 0, 0, 5);
        is(x.image(), 1);
        x.paint(0, 0, 0, 6);
        is(x.undo(), 1);
        is(x.pixel(0, 0, 0), 5);
    }

    @Says("THE IMAGE is taken")
    static void whatStandsStays() {
        DitherDesk x = new DitherDesk();
        Due.row(x, 0, 5, 6);
        x.entry(0, 7);
        x.make(0, 0, 2);
        x.feed('1');
        x.image();
        pixelsAre(x, 0, 5, 6);
        entriesAre(x, 0, 7);
        is(x.sum(13), 2);
        is(x.count(5), 1);
        is(x.count(6), 1);
    }

    @Says("THE IMAGE is taken")
    static void whatIsDoneThenDoesNotChangeIt() {
        DitherDesk x = new DitherDesk();
        Due.row(x, 0, 5, 6);
        Due.mix(x, 3, 7, 8);
        x.image();
        x.noise(0, 1);
        x.refine(3, 0, 20);
        x.undo();
        pixelsAre(x, 0, 5, 6);
        entriesAre(x, 3, 7, 8);
    }
}
