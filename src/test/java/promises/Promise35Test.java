/** Promise 35: plan. */
final class Promise35Test extends Promise {
    public static void main(String[] args) {
        runTestsOf(Promise35Test.class);
    }

    private static DitherDesk eight() {
        DitherDesk x = new DitherDesk();
        for (int i = 1; i <= 8; i++) {
            is(x.plan(1, 0), i);
        }
        return x;
    }

    private static void ends(int what, int most, int refusal) {
        DitherDesk x = new DitherDesk();
        is(x.plan(what, 0), 1);
        is(x.plan(what, most), 2);
        is(x.plan(what, -1), refusal);
        is(x.plan(what, most + 1), refusal);
        is(x.plan(what, MIN), refusal);
        is(x.plan(what, MAX), refusal);
        is(x.count(3), 2);
    }

    @Says("NONE: what (0 .. 3), palette (by 0);")
    static void palettes0To3AreRefined() {
        ends(0, 3, NONE);
    }

    @Says("BAD: n (by 1 to 3: as THE METRIC, as THE KERNEL, 0 .. 15);")
    static void metrics0To3() {
        ends(1, 3, BAD);
    }

    @Says("BAD: n (by 1 to 3: as THE METRIC, as THE KERNEL, 0 .. 15);")
    static void kernels0To4() {
        ends(2, 4, BAD);
    }

    @Says("BAD: n (by 1 to 3: as THE METRIC, as THE KERNEL, 0 .. 15);")
    static void entries0To15() {
        ends(3, 15, BAD);
    }

    @Says("NONE: what (0 .. 3), palette (by 0);")
    static void noneIsAWhatBelowOrAbove() {
        DitherDesk x = new DitherDesk();
        is(x.plan(-2, 0), NONE);
        is(x.plan(4, 0), NONE);
        is(x.plan(MIN, 0), NONE);
        is(x.plan(MAX, 0), NONE);
        is(x.count(3), 0);
    }

    @Says("8 rows at most; by 0 nothing goes")
    static void theEighthComes() {
        DitherDesk x = eight();
        is(x.count(3), 8);
    }

    @Says("FULL: 8.")
    static void theNinthIsFull() {
        DitherDesk x = eight();
        is(x.plan(1, 0), FULL);
        is(x.plan(0, 0), FULL);
        is(x.plan(3, 15), FULL);
        is(x.count(3), 8);
    }

    @Says("the first that a call's words name")
    static void noneAndBadAreAheadOfFull() {
        DitherDesk x = eight();
        is(x.plan(4, 0), NONE);
        is(x.plan(-2, 0), NONE);
        is(x.plan(0, 4), NONE);
        is(x.plan(1, 4), BAD);
        is(x.plan(2, 5), BAD);
        is(x.plan(3, 16), BAD);
    }

    @Says("the first that a call's words name")
    static void noneIsAheadOfBad() {
        DitherDesk x = new DitherDesk();
        is(x.plan(4, -1), NONE);
        is(x.plan(-2, 99), NONE);
    }

    @Says("(what -1: it is empty then, 0, whatever the other is)")
    static void whatMinus1EmptiesIt() {
        DitherDesk x = new DitherDesk();
        is(x.plan(-1, 0), 0);
        x.plan(1, 0);
        is(x.plan(-1, 0), 0);
        is(x.count(3), 0);
        is(x.plan(2, 0), 1);
    }

    @Says("(what -1: it is empty then, 0, whatever the other is)")
    static void whatMinus1EmptiesAFullOne() {
        DitherDesk x = eight();
        is(x.plan(-1, 0), 0);
        is(x.count(3), 0);
        is(x.plan(1, 0), 1);
    }

    @Says("(what -1: it is empty then, 0, whatever the other is)")
    static void whateverTheOtherIs() {
        DitherDesk x = new DitherDesk();
        for (int n : new int[] {-1, 16, 99, MIN, MAX}) {
            x.plan(1, 0);
            is(x.plan(-1, n), 0);
            is(x.count(3), 0);
        }
    }

    @Says("A PLAN told by hand")
    static void whatComesHappensToNothing() {
        DitherDesk x = new DitherDesk();
        Due.row(x, 0, red(0), red(8));
        Due.mix(x, 0, red(1), red(7));
        x.plan(1, 3);
        x.plan(2, 4);
        x.plan(0, 0);
        x.plan(3, 0);
        entriesAre(x, 0, red(1), red(7));
        is(x.rule(0, 0), 0);
        is(x.rule(1, 0), 0);
        is(x.count(6), 0);
    }

    @Says("What is answered so changes nothing.")
    static void refusedTheRowsStay() {
        DitherDesk x = eight();
        Due.row(x, 0, red(5));
        x.entry(0, 0);
        is(x.plan(3, 0), FULL);
        is(x.plan(3, 16), BAD);
        is(x.plan(0, 4), NONE);
        is(x.plan(-2, 0), NONE);
        is(x.ends(0), 25);
        is(x.count(3), 8);
    }
}
