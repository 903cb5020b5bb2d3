/** Promise 18: read. */
final class Promise18Test extends Promise {
    public static void main(String[] args) {
        runTestsOf(Promise18Test.class);
    }

    private static DitherDesk read(int due, String text) {
        DitherDesk x = new DitherDesk();
        is(Due.readAll(x, 0, text), due);
        return x;
    }

    private static void faultOf(String text, int place) {
        DitherDesk x = read(-10 - place, text);
        is(x.count(1), 0);
        is(x.count(5), 0);
    }

    private static String clauses(int many) {
        StringBuilder text = new StringBuilder();
        for (int i = 0; i < many; i++) {
            text.append(i == 0 ? "" : ";").append("0,0,").append(i);
        }
        return text.toString();
    }

    @Says("(the end of THE TEXT, if it ends too early)")
    static void theEmptyTextEndsTooEarly() {
        faultOf("", 0);
    }

    @Says("(the end of THE TEXT, if it ends too early)")
    static void eachTextThatEndsTooEarly() {
        String text = "1,22,3>44,5,6:7!;8,9,10";
        String whole = "1,22,3" + ";" + "8,9,10";
        for (int end : new int[] {1, 2, 4, 5, 7, 8, 9, 10, 11, 12, 13, 14, 17, 18, 19, 20, 21}) {
            faultOf(text.substring(0, end), end);
        }
        read(7, text.substring(0, 15));
        read(7, text.substring(0, 16));
        read(8, text);
        read(2, whole);
    }

    @Says("THE TEXT, which is empty then (by a FAULT, too)")
    static void emptyThen() {
        DitherDesk x = new DitherDesk();
        is(Due.readAll(x, 0, "1,2,3"), 1);
        is(x.count(5), 0);
        is(x.read(0), -10);
        is(Due.readAll(x, 0, "1,2,3"), 0);
    }

    @Says("THE TEXT, which is empty then (by a FAULT, too)")
    static void emptyByAFaultToo() {
        DitherDesk x = new DitherDesk();
        is(Due.readAll(x, 0, "1,2,x"), -14);
        is(x.count(5), 0);
        is(Due.readAll(x, 0, "1,2,3"), 1);
    }

    @Says("NONE (THE TEXT stays).")
    static void noneTheTextStays() {
        DitherDesk x = new DitherDesk();
        Due.feedAll(x, "1,2,3");
        for (int palette : new int[] {-1, 4, MIN, MAX}) {
            is(x.read(palette), NONE);
            is(x.count(5), 5);
        }
        is(x.read(3), 1);
        entriesAre(x, 3, Due.rgb(1, 2, 3));
    }

    @Says("NONE (THE TEXT stays).")
    static void noneIsAheadOfAFault() {
        DitherDesk x = new DitherDesk();
        is(x.read(4), NONE);
        x.feed('x');
        is(x.read(-1), NONE);
        is(x.count(5), 1);
        is(x.read(0), -10);
    }

    @Says("CLAUSES, 1 to 12, with ; between")
    static void oneClause() {
        read(1, clauses(1));
    }

    @Says("CLAUSES, 1 to 12, with ; between")
    static void twelveClauses() {
        DitherDesk x = read(12, clauses(12));
        for (int e = 0; e < 12; e++) {
            is(x.told(0, e, 0), e);
        }
    }

    @Says("CLAUSES, 1 to 12, with ; between")
    static void aThirteenthIsAFault() {
        faultOf(clauses(13), clauses(12).length());
        faultOf(clauses(12) + ";", clauses(12).length());
    }

    @Says("CLAUSES, 1 to 12, with ; between")
    static void theTwelfthMayBeLocked() {
        DitherDesk x = read(12, clauses(12) + "!");
        is(x.told(0, 11, 1), 1);
        is(x.told(0, 10, 1), 0);
        faultOf(clauses(12) + "!;", clauses(12).length() + 1);
    }

    @Says("with ; between")
    static void onlyBetween() {
        faultOf(";", 0);
        faultOf(";1,2,3", 0);
        faultOf("1,2,3;", 6);
        faultOf("1,2,3;;4,5,6", 6);
        faultOf("1,2,3,4,5,6", 5);
    }

    @Says("1 or 2 digits each, 0 .. 63")
    static void oneDigitOrTwo() {
        DitherDesk x = read(4, "0,9,10;63,00,01;09,63,0;0,0,63");
        entriesAre(x, 0, Due.rgb(0, 9, 10), Due.rgb(63, 0, 1), Due.rgb(9, 63, 0), 63);
    }

    @Says("1 or 2 digits each, 0 .. 63")
    static void threeDigitsAreAFaultAtTheThird() {
        faultOf("001,2,3", 2);
        faultOf("1,100,3", 4);
        faultOf("1,2,630", 6);
    }

    @Says("1 or 2 digits each, 0 .. 63")
    static void noDigitIsAFault() {
        faultOf(",2,3", 0);
        faultOf("1,,3", 2);
        faultOf("1,2,;", 4);
        faultOf("-1,2,3", 0);
        faultOf("+1,2,3", 0);
        faultOf("/,2,3", 0);
        faultOf(":,2,3", 0);
    }

    @Says("of a number that is too great its second digit")
    static void sixtyFourIsAFaultAtItsSecondDigit() {
        faultOf("64,0,0", 1);
        faultOf("0,64,0", 3);
        faultOf("0,0,64", 5);
        faultOf("0,0,0>64,0,0:2", 7);
    }

    @Says("of a number that is too great its second digit")
    static void ninetyNineIsAFaultAtItsSecondDigit() {
        faultOf("99,0,0", 1);
        faultOf("70", 1);
        faultOf("0,0,640", 5);
    }

    @Says("n (a digit 2 .. 8)")
    static void theLeastRampHasTwo() {
        DitherDesk x = read(2, "1,2,3>9,8,7:2");
        entriesAre(x, 0, Due.rgb(1, 2, 3), Due.rgb(9, 8, 7));
    }

    @Says("n (a digit 2 .. 8)")
    static void theGreatestRampHasEight() {
        DitherDesk x = read(8, "0,0,0>63,0,63:8");
        for (int i = 0; i < 8; i++) {
            is(x.told(0, i, 0), Due.rgb(9 * i, 0, 9 * i));
        }
        is(x.told(0, 8, 0), NONE);
    }

    @Says("n (a digit 2 .. 8)")
    static void oneAndNineAreFaults() {
        faultOf("1,2,3>9,8,7:1", 12);
        faultOf("1,2,3>9,8,7:9", 12);
        faultOf("1,2,3>9,8,7:0", 12);
        faultOf("1,2,3>9,8,7:x", 12);
        faultOf("1,2,3>9,8,7:", 12);
    }

    @Says("n (a digit 2 .. 8)")
    static void aSecondDigitIsAFault() {
        faultOf("1,2,3>9,8,7:22", 13);
        faultOf("1,2,3>9,8,7:02", 12);
    }

    @Says("(a times (n less 1 less i), and b times i, together) by (n less 1), cut, from a to b")
    static void cutUpwardsAndDownwards() {
        DitherDesk x = read(4, "10,0,63>0,10,63:4");
        entriesAre(x, 0, Due.rgb(10, 0, 63), Due.rgb(6, 3, 63), Due.rgb(3, 6, 63), Due.rgb(0, 10, 63));
    }

    @Says("then, perhaps, ! (LOCKED)")
    static void lockedByIt() {
        DitherDesk x = read(3, "1,1,1!;2,2,2;3,3,3!");
        is(x.told(0, 0, 1), 1);
        is(x.told(0, 1, 1), 0);
        is(x.told(0, 2, 1), 1);
    }

    @Says("then, perhaps, ! (LOCKED)")
    static void allOfARampAreLocked() {
        DitherDesk x = read(9, "0,0,0>63,63,63:8!;1,1,1");
        for (int e = 0; e < 8; e++) {
            is(x.told(0, e, 1), 1);
        }
        is(x.told(0, 8, 1), 0);
    }

    @Says("then, perhaps, ! (LOCKED)")
    static void onceAndLast() {
        faultOf("1,1,1!!", 6);
        faultOf("1,1,1!>2,2,2:2", 6);
        faultOf("!1,1,1", 0);
        faultOf("1,1,1>2,2,2!:2", 11);
        faultOf("1,1,1>2,2,2:!2", 12);
        faultOf("1!,1,1", 1);
    }

    @Says("No blanks.")
    static void noBlanks() {
        faultOf(" 1,2,3", 0);
        faultOf("1 ,2,3", 1);
        faultOf("1, 2,3", 2);
        faultOf("1,2,3 ", 5);
        faultOf("1,2,3; 4,5,6", 6);
        faultOf("1,2,3> 9,8,7:2", 6);
        faultOf("1,2,3>9,8,7 :2", 11);
        faultOf("1,2,3>9,8,7: 2", 12);
        faultOf("1,2,3>9,8,7:2 ", 13);
        faultOf("1,2,3 !", 5);
    }

    @Says("the place of the first byte with which none begins so")
    static void theLeastAndTheGreatestByte() {
        faultOf("\u0000", 0);
        faultOf("\u007f", 0);
        faultOf("1,2,3\u0000", 5);
        faultOf("1,2,3\u007f", 5);
    }

    @Says("the place of the first byte with which none begins so")
    static void aRampsPartsInOrder() {
        faultOf("1,2,3:2", 5);
        faultOf("1,2,3>9,8,7;4,5,6", 11);
        faultOf("1,2,3>9,8,7,2", 11);
        faultOf("1,2,3>9,8:2", 9);
        faultOf("1,2,3>>9,8,7:2", 6);
        faultOf("1,2,3>9,8,7:2>1,1,1:2", 13);
    }

    @Says("how many came; -10 less the FAULT.")
    static void byAFaultNothingComes() {
        DitherDesk x = new DitherDesk();
        x.entry(0, 5);
        is(Due.readAll(x, 0, "1,1,1;2,2,2;3,3,3;x"), -28);
        entriesAre(x, 0, 5);
    }

    @Says("THE TEXT (bytes, 100 at most)")
    static void aHundredBytes() {
        String text = "0,0,0>63,63,63:8!" + ";10,10,10".repeat(7) + ";10,10,10!".repeat(2);
        is(text.length(), 100);
        DitherDesk x = read(9, text);
        is(x.told(0, 8, 0), grey(10));
        is(x.told(0, 8, 1), 0);
    }

    @Says("(the end of THE TEXT, if it ends too early)")
    static void theEndOfAHundredBytes() {
        String text = "0,0,0>63,63,63:8!" + ";10,10,10".repeat(9) + ";1";
        is(text.length(), 100);
        faultOf(text, 100);
    }

    @Says("THE TEXT, which is empty then (by a FAULT, too), are ENTRIES of a PALETTE")
    static void theNextTextIsReadAlone() {
        DitherDesk x = new DitherDesk();
        is(Due.readAll(x, 0, "1,1,1>2,2,2:2!"), 2);
        is(Due.readAll(x, 1, "3,3,3"), 1);
        entriesAre(x, 1, grey(3));
        is(x.told(1, 0, 1), 0);
        is(Due.readAll(x, 2, "4,4,4!;x"), -17);
        is(Due.readAll(x, 2, "5,5,5"), 1);
        entriesAre(x, 2, grey(5));
        is(x.told(2, 0, 1), 0);
    }

    @Says("(red , green , blue: 1 or 2 digits each, 0 .. 63)")
    static void rampsFromAndToBlack() {
        DitherDesk x = read(4, "0,0,0>3,0,0:2;9,0,0>0,0,0:2;0,0,0>0,0,63:2");
        entriesAre(x, 0, red(0), red(3), red(9), 63);
    }

    @Says("Each comes behind the ENTRIES, one behind the other")
    static void behindThoseThatAreThere() {
        DitherDesk x = new DitherDesk();
        Due.mix(x, 0, 5, 6);
        is(Due.readAll(x, 0, "0,1,0;0,0,1"), 2);
        entriesAre(x, 0, 5, 6, 64, 1);
    }

    @Says("but one that is there already")
    static void oneThatIsThereAlreadyDoesNotCome() {
        DitherDesk x = new DitherDesk();
        Due.mix(x, 0, 5, 6);
        is(Due.readAll(x, 0, "0,0,6;0,0,7;0,0,07;0,0,5"), 1);
        entriesAre(x, 0, 5, 6, 7);
    }

    @Says("but one that is there already")
    static void likeOnesOfARampComeOnce() {
        DitherDesk x = read(4, "0,0,0>3,0,0:8");
        entriesAre(x, 0, red(0), red(1), red(2), red(3));
        read(1, "7,7,7>7,7,7:8");
    }

    @Says("but one that is there already")
    static void thatIsNotLockedByIt() {
        DitherDesk x = new DitherDesk();
        x.entry(0, 5);
        is(Due.readAll(x, 0, "0,0,5!"), 0);
        is(x.told(0, 0, 1), 0);
        x.lock(0, 0, true);
        is(Due.readAll(x, 0, "0,0,5"), 0);
        is(x.told(0, 0, 1), 1);
    }

    @Says("but one that is there already, and what there is no room for")
    static void asManyRampsAsTheTextHolds() {
        String text = "9,9,9>9,9,9:8;".repeat(6) + "1,1,1>2,2,2:8!";
        is(text.length(), 98);
        DitherDesk x = read(3, text);
        entriesAre(x, 0, grey(9), grey(1), grey(2));
        is(x.told(0, 0, 1), 0);
        is(x.told(0, 1, 1), 1);
        is(x.told(0, 2, 1), 1);
    }

    @Says("and what there is no room for")
    static void theSixteenthComesAndNoMore() {
        DitherDesk x = new DitherDesk();
        for (int e = 0; e < 12; e++) {
            x.entry(0, 100 + e);
        }
        is(Due.readAll(x, 0, "1,0,0>8,0,0:8"), 4);
        is(x.told(0, 12, 0), red(1));
        is(x.told(0, 15, 0), red(4));
        is(x.count(1), 16);
    }

    @Says("and what there is no room for")
    static void noneComesToAFullOne() {
        DitherDesk x = new DitherDesk();
        for (int e = 0; e < 16; e++) {
            x.entry(0, 100 + e);
        }
        is(Due.readAll(x, 0, "1,0,0;2,0,0!"), 0);
        is(x.count(1), 16);
        is(x.told(0, 15, 0), 115);
        is(x.told(0, 15, 1), 0);
        is(x.count(5), 0);
    }

    @Says("and what there is no room for")
    static void aFullOneStillHasItsFault() {
        DitherDesk x = new DitherDesk();
        for (int e = 0; e < 16; e++) {
            x.entry(0, 100 + e);
        }
        is(Due.readAll(x, 0, "1,0,0;2,0,x"), -20);
    }

    @Says("THE TEXT, which is empty then (by a FAULT, too), are ENTRIES of a PALETTE")
    static void otherPalettesStay() {
        DitherDesk x = new DitherDesk();
        is(Due.readAll(x, 3, "1,0,0;2,0,0!"), 2);
        is(x.count(1), 2);
        entriesAre(x, 3, red(1), red(2));
        is(x.count(6), 0);
    }
}
