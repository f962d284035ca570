/** The ordinary cases of promises 10 to 14. */
public final class LookingTest {
    private static final Due DUE = new Due();

    public static void main(String[] args) {
        ofSheet();
        reading();
        unclear();
        fullFields();
        ofMark();
        together();
        togetherInConflict();
        togetherAtSeveralFields();
        count();
        DUE.end();
    }

    private static void ofSheet() {
        CarbonSheets x = new CarbonSheets();
        x.thickness(1, 2);
        x.write(0, 500, 5);
        x.write(0, 700, 2);
        x.write(9, 1, 2);
        x.write(8, 1, 1);
        x.strike(9, 2);
        int[][] want = {{1, 56, 0, 4, 1, 0, 1, 0}, {2, 59, 0, 3, 1, 1, 0, 0}, {1, 59, 0, 1, 0, 1, 0, 0}};
        for (int sheet = 0; sheet < want.length; sheet++) {
            for (int what = 0; what < 8; what++) {
                DUE.is("ofSheet(" + sheet + ", " + what + ")", x.ofSheet(sheet, what), want[sheet][what]);
            }
        }
        x.tear(1);
        x.amend(4, 3, 5, 9);
        x.paint(4, 5);
        int[] torn = {1, 60, 1, 1, 0, 8, 0, 40};
        for (int what = 0; what < 8; what++) {
            DUE.is("ofSheet(4, " + what + ")", x.ofSheet(4, what), torn[what]);
        }
    }

    private static void reading() {
        CarbonSheets x = new CarbonSheets();
        DUE.is("no mark: its value", x.reading(0, 0, 1), CarbonSheets.NONE);
        DUE.is("no mark: its strength", x.reading(0, 0, 2), CarbonSheets.NONE);
        DUE.is("no mark: how many are readable", x.reading(0, 0, 4), 0);
        x.write(0, 5, 2);
        DUE.is("as strong as FAINT", x.reading(0, 0, 0), CarbonSheets.CLEAR);
        DUE.is("fainter than FAINT", x.reading(1, 0, 0), CarbonSheets.EMPTY);
        DUE.is("fainter: its value", x.reading(1, 0, 1), CarbonSheets.NONE);
        DUE.is("fainter: the marks there", x.reading(1, 0, 3), 1);
        DUE.is("fainter: how many are readable", x.reading(1, 0, 4), 0);
        x.set(CarbonSheets.FAINT, 3);
        DUE.is("FAINT above it", x.reading(0, 0, 0), CarbonSheets.EMPTY);
        x.write(0, 6, 4);
        x.strike(0, 3);
        x.write(0, 7, 1);
        DUE.is("struck and faint ones are not readable", x.reading(0, 0, 4), 1);
        DUE.is("the last readable one", x.reading(0, 0, 1), 6);
        DUE.is("its strength", x.reading(0, 0, 2), 4);
        DUE.is("all marks there", x.reading(0, 0, 3), 3);
        x.paint(0, 0);
        DUE.is("all struck", x.reading(0, 0, 0), CarbonSheets.EMPTY);
    }

    private static void unclear() {
        CarbonSheets x = new CarbonSheets();
        x.write(0, 1, 6);
        x.write(0, 2, 5);
        DUE.is("stronger by OVER", x.reading(0, 0, 0), CarbonSheets.CLEAR);
        x.write(0, 3, 4);
        DUE.is("stronger by more than OVER", x.reading(0, 0, 0), CarbonSheets.UNCLEAR);
        DUE.is("its value all the same", x.reading(0, 0, 1), 3);
        x.set(CarbonSheets.OVER, 2);
        DUE.is("a larger OVER", x.reading(0, 0, 0), CarbonSheets.CLEAR);
        x.set(CarbonSheets.OVER, 0);
        x.write(0, 1, 5);
        DUE.is("the stronger one has the same value", x.reading(0, 0, 0), CarbonSheets.CLEAR);
        x.write(0, 9, 9);
        DUE.is("the last one is the strongest", x.reading(0, 0, 0), CarbonSheets.CLEAR);
        x.write(0, 1, 2);
        DUE.is("weaker than another value's", x.reading(0, 0, 0), CarbonSheets.UNCLEAR);
        x.paint(0, 0);
        x.write(0, 4, 2);
        DUE.is("struck ones make nothing unclear", x.reading(0, 0, 0), CarbonSheets.CLEAR);
        CarbonSheets y = new CarbonSheets();
        y.write(0, 1, 9);
        y.write(0, 2, 3);
        y.write(0, 3, 1);
        DUE.is("one fainter than FAINT is not the last", y.reading(0, 0, 1), 2);
        y.set(CarbonSheets.FAINT, 9);
        DUE.is("fainter ones make nothing unclear", y.reading(0, 0, 0), CarbonSheets.CLEAR);
        DUE.is("the strong one is left", y.reading(0, 0, 1), 1);
    }

    /** A full field's neighbours must not be read with it; the last field of a sheet has none. */
    private static void fullFields() {
        CarbonSheets x = new CarbonSheets();
        for (int i = 0; i < 8; i++) {
            x.write(3, i, 2);
            x.write(9, i, 2);
        }
        x.strike(3, 2);
        x.write(4, 70, 9);
        x.write(4, 71, 9);
        DUE.is("all are struck: reading(0, 3, 0)", x.reading(0, 3, 0), CarbonSheets.EMPTY);
        DUE.is("all are struck: reading(0, 3, 1)", x.reading(0, 3, 1), CarbonSheets.NONE);
        DUE.is("all are struck: reading(0, 3, 4)", x.reading(0, 3, 4), 0);
        DUE.is("all are struck: strikeFor(3)", x.strikeFor(3), 1);
        DUE.is("eight are readable: reading(0, 9, 1)", x.reading(0, 9, 1), 7);
        DUE.is("eight are readable: reading(0, 9, 4)", x.reading(0, 9, 4), 8);
        DUE.is("eight are readable: strikeFor(9)", x.strikeFor(9), 2);
        DUE.is("ofSheet(0, 3)", x.ofSheet(0, 3), 18);
        DUE.is("ofSheet(0, 4)", x.ofSheet(0, 4), 8);
        x.paint(0, 4);
        DUE.is("a struck neighbour is counted once", x.ofSheet(0, 4), 10);
        x.paint(0, 9);
        DUE.is("the last field, struck", x.ofSheet(0, 4), 18);
        x.write(0, 1, 1);
        x.paint(0, 0);
        DUE.is("the first field, struck", x.ofSheet(0, 4), 19);
        x.write(0, 1, 9);
        x.write(1, 1, 9);
        x.write(2, 1, 9);
        DUE.is("several are clear", x.ofSheet(0, 5), 7);
        x.write(0, 2, 2);
        x.write(2, 2, 2);
        DUE.is("several are unclear", x.ofSheet(0, 6), 5);
    }

    private static void ofMark() {
        CarbonSheets x = new CarbonSheets();
        x.write(3, 999, 9);
        x.write(3, 0, 1);
        x.strike(3, 1);
        DUE.is("ofMark(0, 3, 0, 0)", x.ofMark(0, 3, 0, 0), 999);
        DUE.is("ofMark(0, 3, 0, 1)", x.ofMark(0, 3, 0, 1), 9);
        DUE.is("ofMark(0, 3, 0, 2)", x.ofMark(0, 3, 0, 2), 0);
        DUE.is("ofMark(0, 3, 1, 0)", x.ofMark(0, 3, 1, 0), 0);
        DUE.is("ofMark(0, 3, 1, 1)", x.ofMark(0, 3, 1, 1), 1);
        DUE.is("ofMark(0, 3, 1, 2)", x.ofMark(0, 3, 1, 2), 1);
        DUE.is("ofMark(4, 3, 0, 1)", x.ofMark(4, 3, 0, 1), 5);
        DUE.is("a mark that did not come so deep", x.ofMark(1, 3, 1, 0), CarbonSheets.NO_SUCH);
        DUE.is("ofMark(0, 4, 7, 0)", Forms.full().ofMark(0, 4, 7, 0), 7);
        DUE.is("ofMark(0, 4, 8, 0)", Forms.full().ofMark(0, 4, 8, 0), CarbonSheets.NO_SUCH);
    }

    private static void together() {
        CarbonSheets x = new CarbonSheets();
        togetherIs(x, "no reading", 0, CarbonSheets.NONE, CarbonSheets.NONE, 0, 0);
        x.write(0, 500, 5);
        togetherIs(x, "one value", 1, 500, 500, 5 + 4 + 3 + 2, 15);
        x.write(0, 700, 2);
        togetherIs(x, "unclear ones do not vote", 1, 500, 500, 4 + 3 + 2, 14);
        x.tear(1);
        x.amend(4, 0, 800, 9);
        togetherIs(x, "the sums are equal", 2, 500, 800, 9, 30);
        x.amend(4, 0, 801, 8);
        togetherIs(x, "the last one's strength counts", 1, 500, 500, 9, 30);
        x.set(CarbonSheets.FAINT, 9);
        togetherIs(x, "one that is readable", 1, 800, 800, 9, 16);
    }

    private static void togetherInConflict() {
        CarbonSheets x = new CarbonSheets();
        for (int i = 0; i < 5; i++) {
            x.tear(0);
        }
        int[] values = {30, 10, 50, 20, 40};
        for (int sheet = 0; sheet < 5; sheet++) {
            x.amend(sheet, 0, values[sheet], 3);
        }
        togetherIs(x, "all five", 5, 10, 50, 3, 31);
        DUE.is("count(4)", x.count(4), 0);
        DUE.is("count(5)", x.count(5), 1);
        x.amend(3, 0, 40, 2);
        x.amend(1, 0, 30, 2);
        togetherIs(x, "two of two sheets each", 2, 30, 40, 5, 31);
        x.amend(2, 0, 30, 2);
        togetherIs(x, "one value of three sheets", 1, 30, 30, 7, 31);
        x.amend(0, 0, 0, 9);
        x.amend(1, 0, 0, 9);
        togetherIs(x, "the value 0 counts, too", 1, 0, 0, 18, 31);
    }

    private static void togetherAtSeveralFields() {
        CarbonSheets x = new CarbonSheets();
        for (int i = 0; i < 5; i++) {
            x.tear(1);
        }
        for (int field : new int[] {1, 3, 8}) {
            x.amend(0, field, 5, 9);
            x.amend(4, field, 6, 9);
        }
        x.amend(2, 2, 7, 9);
        x.amend(2, 9, 0, 2);
        DUE.is("count(4)", x.count(4), 4 + 512);
        DUE.is("count(5)", x.count(5), 2 + 8 + 256);
        DUE.is("together(3, 2)", x.together(3, 2), 6);
        togetherIs(x, "a field without a reading, after one with", 0, CarbonSheets.NONE, CarbonSheets.NONE, 0, 0);
    }

    private static void togetherIs(CarbonSheets x, String call, int... want) {
        for (int what = 0; what < 5; what++) {
            DUE.is(call + ": together(0, " + what + ")", x.together(0, what), want[what]);
        }
    }

    private static void count() {
        CarbonSheets x = new CarbonSheets();
        x.set(CarbonSheets.FAINT, 1);
        x.set(CarbonSheets.OVER, 4);
        x.write(0, 1, 9);
        x.write(9, 2, 1);
        x.strike(9, 1);
        x.write(5, 7, 1);
        x.tear(0);
        x.tear(1);
        x.tear(1);
        x.amend(0, 5, 9, 1);
        x.amend(3, 5, 8, 1);
        x.amend(4, 1, 8, 1);
        Forms.append(x, "w5=1");
        int[] want = {1, 2, 6, 10, 3, 32, 4, 6, 1, 4};
        for (int what = 0; what < want.length; what++) {
            DUE.is("count(" + what + ")", x.count(what), want[what]);
        }
        x.tear(0);
        DUE.is("one sheet: the top one", x.count(0), 2);
        DUE.is("one sheet: the lowest one", x.count(1), 2);
        x.tear(0);
        DUE.is("no sheet: the top one", x.count(0), CarbonSheets.NONE);
        DUE.is("no sheet: the lowest one", x.count(1), CarbonSheets.NONE);
        DUE.is("no sheet: the stack", x.count(2), 0);
    }
}
