/** The ordinary cases of promises 5 to 9. */
public final class WritingTest {
    private static final Due DUE = new Due();

    public static void main(String[] args) {
        write();
        writeWithCarbons();
        writeToFullFields();
        strike();
        paint();
        amend();
        tear();
        DUE.end();
    }

    private static void write() {
        CarbonSheets x = new CarbonSheets();
        DUE.is("write(0, 999, 9)", x.write(0, 999, 9), 5);
        DUE.is("write(9, 0, 1)", x.write(9, 0, 1), 1);
        for (int sheet = 0; sheet < 5; sheet++) {
            DUE.is("ofMark(" + sheet + ", 0, 0, 0)", x.ofMark(sheet, 0, 0, 0), 999);
            DUE.is("ofMark(" + sheet + ", 0, 0, 1)", x.ofMark(sheet, 0, 0, 1), 9 - sheet);
            DUE.is("ofMark(" + sheet + ", 0, 0, 2)", x.ofMark(sheet, 0, 0, 2), 0);
            DUE.is("ofSheet(" + sheet + ", 1)", x.ofSheet(sheet, 1), sheet < 4 ? 59 : 60);
        }
        DUE.is("reading(1, 9, 3)", x.reading(1, 9, 3), 0);
        DUE.is("count(7)", x.count(7), 2);
        x.thickness(1, 4);
        DUE.is("strength 4 less 4 is not above 0", x.write(1, 5, 5), 2);
        DUE.is("its carbon is not used then", x.ofSheet(1, 1), 59);
        DUE.is("the one above is", x.ofSheet(0, 1), 58);
        DUE.is("strength 5 less 4 is", x.write(1, 6, 6), 3);
        DUE.is("its strength", x.ofMark(2, 1, 0, 1), 1);
        x.tear(0);
        x.tear(1);
        DUE.is("write to a stack without its ends", x.write(2, 7, 9), 3);
        DUE.is("the top one's strength", x.reading(1, 2, 2), 9);
        DUE.is("the lowest one's strength", x.reading(3, 2, 2), 4);
        DUE.is("a torn sheet has none", x.reading(0, 2, 3) + x.reading(4, 2, 3), 0);
        DUE.is("the lowest one's carbon is not used", x.ofSheet(3, 1), 59);
        DUE.is("a torn sheet's carbon is not used", x.ofSheet(0, 1), 57);
    }

    private static void writeWithCarbons() {
        CarbonSheets x = new CarbonSheets();
        x.carbon(2, 1);
        DUE.is("the last use", x.write(0, 1, 9), 5);
        DUE.is("is used up", x.ofSheet(2, 1), 0);
        DUE.is("no use is left", x.write(0, 2, 9), 3);
        DUE.is("the carbon below is not used", x.ofSheet(3, 1), 59);
        x.thickness(2, 0);
        DUE.is("thickness 0 needs a use, too", x.write(0, 3, 9), 3);
        x.thickness(0, 0);
        DUE.is("strength 1 comes through thickness 0", x.write(0, 4, 1), 2);
        DUE.is("and uses the carbon", x.ofSheet(0, 1), 56);
        DUE.is("but no deeper one", x.ofSheet(1, 1), 57);
    }

    private static void writeToFullFields() {
        CarbonSheets x = Forms.full();
        DUE.is("another field has room", x.write(3, 1, 9), 5);
        x.tear(0);
        x.tear(0);
        DUE.is("the sheets below have room for one", x.write(4, 1, 9), 3);
        DUE.is("and no more", x.write(4, 1, 9), CarbonSheets.TOO_MANY);
        x.strike(4, 9);
        DUE.is("struck marks count, too", x.write(4, 1, 9), CarbonSheets.TOO_MANY);
    }

    private static void strike() {
        CarbonSheets x = new CarbonSheets();
        x.write(0, 500, 5);
        x.write(0, 700, 2);
        DUE.is("strike(0, 2)", x.strike(0, 2), 2);
        DUE.is("the weak mark is struck", x.ofMark(0, 0, 1, 2), 1);
        DUE.is("the strong one is not", x.ofMark(0, 0, 0, 2), 0);
        DUE.is("a stroke uses the carbon", x.ofSheet(0, 1), 57);
        DUE.is("and not the one to which it does not come", x.ofSheet(2, 1), 59);
        DUE.is("a mark as strong as the stroke is struck on each sheet", x.strike(0, 5), 5);
        DUE.is("marks that were struck do not count", x.strike(0, 9), 0);
        DUE.is("a stroke that strikes nothing uses carbons", x.ofSheet(3, 1), 57);
        DUE.is("strike of a field without marks", x.strike(9, 1), 0);
        DUE.is("count(7)", x.count(7), 6);
        CarbonSheets y = new CarbonSheets();
        y.write(3, 1, 9);
        y.write(4, 1, 9);
        y.tear(0);
        DUE.is("a stroke on the stack that is left", y.strike(3, 9), 4);
        DUE.is("does not come to the torn sheet", y.ofMark(0, 3, 0, 2), 0);
        DUE.is("nor to another field", y.ofMark(1, 4, 0, 2), 0);
        y.carbon(1, 0);
        DUE.is("a stroke comes no deeper than its carbons let it", y.strike(4, 9), 1);
    }

    private static void paint() {
        CarbonSheets x = new CarbonSheets();
        x.write(0, 500, 9);
        x.write(0, 700, 9);
        x.strike(0, 1);
        DUE.is("paint(0, 0)", x.paint(0, 0), 2);
        DUE.is("paint(0, 0) again", x.paint(0, 0), 0);
        DUE.is("the sheet below is not painted", x.reading(1, 0, 4), 2);
        DUE.is("the top one was not amended apart", x.ofSheet(0, 7), 0);
        DUE.is("count(7)", x.count(7), 5);
        x.tear(1);
        DUE.is("paint of a sheet that is apart", x.paint(4, 0), 2);
        DUE.is("it was amended apart", x.ofSheet(4, 7), 1);
        DUE.is("paint where nothing is", x.paint(4, 9), 0);
        DUE.is("it was amended apart, too", x.ofSheet(4, 7), 513);
        x.tear(0);
        DUE.is("the next one is the top one", x.paint(1, 0), 2);
        DUE.is("the torn one was not amended apart", x.ofSheet(0, 7), 0);
    }

    private static void amend() {
        CarbonSheets x = new CarbonSheets();
        x.write(2, 10, 9);
        x.tear(0);
        DUE.is("amend(0, 2, 999, 1)", x.amend(0, 2, 999, 1), 2);
        DUE.is("amend(0, 9, 0, 9)", x.amend(0, 9, 0, 9), 1);
        DUE.is("its value", x.ofMark(0, 2, 1, 0), 999);
        DUE.is("its strength", x.ofMark(0, 2, 1, 1), 1);
        DUE.is("it is not struck", x.ofMark(0, 2, 1, 2), 0);
        DUE.is("no other sheet has it", x.reading(1, 2, 3), 1);
        DUE.is("ofSheet(0, 7)", x.ofSheet(0, 7), 4 + 512);
        DUE.is("no carbon is used", x.ofSheet(0, 1), 59);
        DUE.is("count(7)", x.count(7), 4);
        for (int i = 3; i <= 8; i++) {
            DUE.is("amend up to " + i, x.amend(0, 2, 5, 5), i);
        }
        DUE.is("amend of a full field", x.amend(0, 2, 5, 5), CarbonSheets.TOO_MANY);
    }

    private static void tear() {
        CarbonSheets x = new CarbonSheets();
        DUE.is("tear(0)", x.tear(0), 0);
        DUE.is("tear(1)", x.tear(1), 4);
        DUE.is("tear(1)", x.tear(1), 3);
        DUE.is("count(2)", x.count(2), 6);
        DUE.is("ofSheet(0, 2)", x.ofSheet(0, 2), 1);
        DUE.is("ofSheet(1, 2)", x.ofSheet(1, 2), 0);
        DUE.is("tear(0)", x.tear(0), 1);
        DUE.is("the last sheet", x.tear(0), 2);
        DUE.is("count(7)", x.count(7), 5);
        DUE.is("tear(1) of no stack", x.tear(1), CarbonSheets.NOT_POSSIBLE);
        CarbonSheets y = new CarbonSheets();
        for (int sheet = 4; sheet >= 0; sheet--) {
            DUE.is("tear(1)", y.tear(1), sheet);
        }
        DUE.is("count(0)", y.count(0), CarbonSheets.NONE);
    }
}
