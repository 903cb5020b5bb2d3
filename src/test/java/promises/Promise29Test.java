/** Promise 29: taken. */
final class Promise29Test extends Promise {
    public static void main(String[] args) {
        runTestsOf(Promise29Test.class);
    }

    private static void takenAre(int way, long... due) {
        DitherDesk x = new DitherDesk();
        x.picture(0, 1, 1);
        x.entry(0, 0);
        is(x.make(0, 0, way), 1);
        for (int k = 0; k < 5; k++) {
            is(x.taken(k), due[k]);
        }
    }

    @Says("(SPREAD and SCREEN are under PLAIN, SERPENT under SPREAD, TURNED under SCREEN)")
    static void plainIsUnderNone() {
        takenAre(0, 0, CAST, CAST, CAST, CAST);
    }

    @Says("(SPREAD and SCREEN are under PLAIN, SERPENT under SPREAD, TURNED under SCREEN)")
    static void spreadIsUnderPlain() {
        takenAre(1, 1, 1, CAST, CAST, CAST);
    }

    @Says("(SPREAD and SCREEN are under PLAIN, SERPENT under SPREAD, TURNED under SCREEN)")
    static void serpentIsUnderSpreadAndSoPlain() {
        takenAre(2, 2, 2, 2, CAST, CAST);
    }

    @Says("(SPREAD and SCREEN are under PLAIN, SERPENT under SPREAD, TURNED under SCREEN)")
    static void screenIsUnderPlain() {
        takenAre(3, 3, CAST, CAST, 3, CAST);
    }

    @Says("(SPREAD and SCREEN are under PLAIN, SERPENT under SPREAD, TURNED under SCREEN)")
    static void turnedIsUnderScreenAndSoPlain() {
        takenAre(4, 4, CAST, CAST, 4, 4);
    }

    @Says("BAD: k; NOTHING: none is MADE; CAST.")
    static void badIsAKindBelowOrAbove() {
        DitherDesk x = new DitherDesk();
        x.picture(0, 1, 1);
        x.entry(0, 0);
        x.make(0, 0, 4);
        is(x.taken(-1), BAD);
        is(x.taken(5), BAD);
        is(x.taken(MIN), BAD);
        is(x.taken(MAX), BAD);
    }

    @Says("BAD: k; NOTHING: none is MADE; CAST.")
    static void nothingWithoutASheet() {
        DitherDesk x = new DitherDesk();
        for (int k = 0; k < 5; k++) {
            is(x.taken(k), NOTHING);
        }
    }

    @Says("BAD: k; NOTHING: none is MADE; CAST.")
    static void badIsAheadOfNothing() {
        DitherDesk x = new DitherDesk();
        is(x.taken(-1), BAD);
        is(x.taken(5), BAD);
    }
}
