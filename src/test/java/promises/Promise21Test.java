/** Promise 21: rule. */
final class Promise21Test extends Promise {
    public static void main(String[] args) {
        runTestsOf(Promise21Test.class);
    }

    private static void ends(int what, int first, int most) {
        DitherDesk x = new DitherDesk();
        is(x.rule(what, most), first);
        is(x.rule(what, most + 1), BAD);
        is(x.rule(what, MAX), BAD);
        is(x.rule(what, 0), most);
        is(x.rule(what, -1), BAD);
        is(x.rule(what, MIN), BAD);
        is(x.rule(what, 1), 0);
    }

    @Says("What 0 THE METRIC (0 .. 3)")
    static void theMetricsEnds() {
        ends(0, 0, 3);
    }

    @Says("1 THE KERNEL (0 .. 4)")
    static void theKernelsEnds() {
        ends(1, 0, 4);
    }

    @Says("2 THE SCREEN (0 .. 2)")
    static void theScreensEnds() {
        ends(2, 0, 2);
    }

    @Says("3 STRENGTH (0 .. 63) becomes v: what it was.")
    static void strengthsEnds() {
        ends(3, 16, 63);
    }

    @Says("NONE: what; BAD.")
    static void noneIsAWhatBelowOrAbove() {
        DitherDesk x = new DitherDesk();
        is(x.rule(-1, 0), NONE);
        is(x.rule(4, 0), NONE);
        is(x.rule(MIN, 0), NONE);
        is(x.rule(MAX, 0), NONE);
    }

    @Says("NONE: what; BAD.")
    static void noneIsAheadOfBad() {
        DitherDesk x = new DitherDesk();
        is(x.rule(-1, -1), NONE);
        is(x.rule(4, 64), NONE);
    }

    @Says("What is answered so changes nothing.")
    static void refusedAllStay() {
        DitherDesk x = new DitherDesk();
        int[] values = {1, 2, 1, 40};
        int[] tooGreat = {4, 5, 3, 64};
        for (int what = 0; what < 4; what++) {
            x.rule(what, values[what]);
        }
        for (int what = 0; what < 4; what++) {
            is(x.rule(what, tooGreat[what]), BAD);
            is(x.rule(what, -1), BAD);
        }
        for (int what = 0; what < 4; what++) {
            is(x.rule(what, 0), values[what]);
        }
    }

    @Says("becomes v: what it was.")
    static void eachForItself() {
        DitherDesk x = new DitherDesk();
        x.rule(0, 3);
        is(x.rule(1, 4), 0);
        is(x.rule(2, 2), 0);
        is(x.rule(3, 0), 16);
        is(x.rule(0, 0), 3);
        is(x.rule(1, 0), 4);
        is(x.rule(2, 0), 2);
        is(x.rule(3, 0), 0);
    }
}
