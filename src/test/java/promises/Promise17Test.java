/** Promise 17: feed. */
final class Promise17Test extends Promise {
    public static void main(String[] args) {
        runTestsOf(Promise17Test.class);
    }

    private static DitherDesk fed(int many) {
        DitherDesk x = new DitherDesk();
        for (int i = 1; i <= many; i++) {
            is(x.feed('0'), i);
        }
        return x;
    }

    @Says("A sign (0 .. 127) comes behind THE TEXT's: how many it has.")
    static void theLeastAndTheGreatestSign() {
        DitherDesk x = new DitherDesk();
        is(x.feed(0), 1);
        is(x.feed(127), 2);
        is(x.count(5), 2);
    }

    @Says("how many it has. BAD; FULL.")
    static void badIsASignBelowOrAbove() {
        DitherDesk x = new DitherDesk();
        is(x.feed(-1), BAD);
        is(x.feed(128), BAD);
        is(x.feed(255), BAD);
        is(x.feed(256 + '0'), BAD);
        is(x.feed(MIN), BAD);
        is(x.feed(MAX), BAD);
        is(x.count(5), 0);
    }

    @Says("THE TEXT (bytes, 100 at most)")
    static void theHundredthComes() {
        DitherDesk x = fed(99);
        is(x.feed('0'), 100);
        is(x.count(5), 100);
    }

    @Says("how many it has. BAD; FULL.")
    static void theHundredAndFirstIsFull() {
        DitherDesk x = fed(100);
        is(x.feed('0'), FULL);
        is(x.feed(0), FULL);
        is(x.feed(127), FULL);
        is(x.count(5), 100);
    }

    @Says("the first that a call's words name")
    static void badIsAheadOfFull() {
        DitherDesk x = fed(100);
        is(x.feed(-1), BAD);
        is(x.feed(128), BAD);
    }

    @Says("comes behind THE TEXT's")
    static void inTheOrderOfTheCalls() {
        DitherDesk x = new DitherDesk();
        Due.feedAll(x, "1,2,3");
        is(x.read(0), 1);
        entriesAre(x, 0, Due.rgb(1, 2, 3));
    }

    @Says("What is answered so changes nothing.")
    static void refusedTheTextStays() {
        DitherDesk x = new DitherDesk();
        Due.feedAll(x, "1,2,");
        x.feed(128);
        x.feed(-1);
        is(x.feed('3'), 5);
        is(x.read(0), 1);
        entriesAre(x, 0, Due.rgb(1, 2, 3));
    }

    @Says("THE TEXT, which is empty then")
    static void afterReadFromTheFirstAgain() {
        DitherDesk x = fed(100);
        is(x.read(0), -12); // 000
        is(x.feed('0'), 1);
    }
}
