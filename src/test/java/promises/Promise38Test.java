/** Promise 38: looked. */
final class Promise38Test extends Promise {
    public static void main(String[] args) {
        runTestsOf(Promise38Test.class);
    }

    @Says("by which it is otherwise now (-5: none).")
    static void neverByAnEmptyBook() {
        DitherDesk x = new DitherDesk();
        is(x.looked(), NEVER);
        x.entry(0, 0);
        is(x.looked(), NEVER);
    }

    @Says("by which it is otherwise now (-5: none).")
    static void neverIfAllIsSo() {
        DitherDesk x = new DitherDesk();
        Due.mix(x, 1, 10, 20);
        x.book(0, 0);
        x.book(1, 2);
        x.book(3, 0);
        is(x.looked(), NEVER);
    }

    @Says("LOOKED at: the number of the first of these rows")
    static void theFirstRow() {
        DitherDesk x = new DitherDesk();
        x.book(0, 1);
        is(x.looked(), 0);
    }

    @Says("LOOKED at: the number of the first of these rows")
    static void theFirstOfSeveral() {
        DitherDesk x = new DitherDesk();
        x.book(0, 0);
        x.book(1, 1);
        x.book(2, 2);
        is(x.looked(), 1);
    }

    @Says("LOOKED at: the number of the first of these rows")
    static void theEighthRow() {
        DitherDesk x = new DitherDesk();
        for (int row = 0; row < 7; row++) {
            x.book(row % 4, 0);
        }
        x.book(3, 1);
        is(x.looked(), 7);
        x.entry(3, 5);
        is(x.looked(), 3);
    }

    @Says("how many ENTRIES (0 .. 16; 8 rows at most)")
    static void sixteenEntries() {
        DitherDesk x = new DitherDesk();
        for (int e = 0; e < 15; e++) {
            x.entry(2, e);
        }
        x.book(2, 16);
        is(x.looked(), 0);
        x.entry(2, 15);
        is(x.looked(), NEVER);
        x.drop(2, 0);
        is(x.looked(), 0);
    }

    @Says("by which it is otherwise now (-5: none).")
    static void oneMoreOrOneLess() {
        DitherDesk x = new DitherDesk();
        x.entry(0, 5);
        x.book(0, 1);
        is(x.looked(), NEVER);
        x.entry(0, 6);
        is(x.looked(), 0);
        x.drop(0, 0);
        is(x.looked(), NEVER);
        x.drop(0, 0);
        is(x.looked(), 0);
    }

    @Says("by which it is otherwise now (-5: none).")
    static void rowsThatWentAreNotLookedAt() {
        DitherDesk x = new DitherDesk();
        x.book(0, 1);
        x.book(0, 1);
        x.book(-1, 0);
        x.book(0, 0);
        is(x.looked(), NEVER);
    }
}
