/** The ordinary cases of promises 15 to 19. */
public final class WhatIfTest {
    private static final Due DUE = new Due();

    public static void main(String[] args) {
        differ();
        enoughFor();
        strikeFor();
        lasts();
        ifWritten();
        DUE.end();
    }

    private static void differ() {
        CarbonSheets x = new CarbonSheets();
        DUE.is("all empty", x.differ(0, 4), 0);
        x.write(0, 1, 9);
        DUE.is("the same value, another strength", x.differ(0, 4), 0);
        x.write(1, 1, 2);
        DUE.is("clear and empty", x.differ(0, 1), 2);
        DUE.is("the other way round", x.differ(1, 0), 2);
        DUE.is("both empty, one with a faint mark", x.differ(1, 2), 0);
        x.write(9, 1, 9);
        x.write(9, 2, 3);
        DUE.is("both unclear", x.differ(0, 1), 2);
        DUE.is("unclear and clear", x.differ(0, 2), 2 + 512);
        x.tear(0);
        x.amend(0, 0, 2, 9);
        x.amend(0, 9, 77, 2);
        DUE.is("two values; both unclear with two values", x.differ(0, 1), 1 + 2);
        DUE.is("a sheet and itself", x.differ(0, 0), 0);
    }

    private static void enoughFor() {
        CarbonSheets x = new CarbonSheets();
        for (int sheet = 0; sheet < 5; sheet++) {
            DUE.is("enoughFor(" + sheet + ")", x.enoughFor(sheet), 2 + sheet);
        }
        x.set(CarbonSheets.FAINT, 5);
        DUE.is("9 is just enough", x.enoughFor(4), 9);
        x.set(CarbonSheets.FAINT, 6);
        DUE.is("10 would be needed", x.enoughFor(4), CarbonSheets.NONE);
        DUE.is("enoughFor(3)", x.enoughFor(3), 9);
        x.carbon(2, 0);
        DUE.is("no use is left above", x.enoughFor(3), CarbonSheets.NONE);
        DUE.is("above the empty carbon", x.enoughFor(2), 8);
        x.set(CarbonSheets.FAINT, 1);
        x.thickness(0, 0);
        DUE.is("a sheet of thickness 0 above", x.enoughFor(1), 1);
        x.tear(0);
        DUE.is("a sheet that is apart", x.enoughFor(0), CarbonSheets.NONE);
        DUE.is("the new top one", x.enoughFor(1), 1);
        DUE.is("below it", x.enoughFor(2), 2);
        x.tear(1);
        DUE.is("the lowest one apart", x.enoughFor(4), CarbonSheets.NONE);
        DUE.is("marks that are there do not matter", Forms.full().enoughFor(0), 2);
    }

    private static void strikeFor() {
        CarbonSheets x = new CarbonSheets();
        DUE.is("it is so already", x.strikeFor(0), 1);
        x.write(0, 1, 1);
        DUE.is("so is it with a faint mark", x.strikeFor(0), 1);
        x.write(0, 1, 7);
        DUE.is("as strong as what was written", x.strikeFor(0), 7);
        x.write(5, 1, 2);
        DUE.is("only the top one reads it", x.strikeFor(5), 2);
        x.thickness(1, 2);
        DUE.is("a sheet has become thicker", x.strikeFor(0), 8);
        x.thickness(0, 3);
        DUE.is("10 would be needed", x.strikeFor(0), CarbonSheets.NONE);
        x.set(CarbonSheets.FAINT, 6);
        DUE.is("what is below is too faint to be read", x.strikeFor(0), 9);
        x.thickness(0, 1);
        x.carbon(0, 0);
        DUE.is("no use is left", x.strikeFor(0), CarbonSheets.NONE);
        x.tear(0);
        DUE.is("a sheet that is apart does not count", x.strikeFor(0), 6);
        DUE.is("it reads yet", x.reading(0, 0, 0), CarbonSheets.CLEAR);
        for (int i = 0; i < 4; i++) {
            x.tear(1);
        }
        DUE.is("no stack", x.strikeFor(0), CarbonSheets.NONE);
        DUE.is("no stack, no mark", x.strikeFor(9), CarbonSheets.NONE);
    }

    private static void lasts() {
        CarbonSheets x = new CarbonSheets();
        DUE.is("lasts(5)", x.lasts(5), 60);
        DUE.is("lasts(9)", x.lasts(9), 60);
        DUE.is("lasts(4)", x.lasts(4), 0);
        x.carbon(4, 0);
        DUE.is("the lowest one's carbon is not used", x.lasts(5), 60);
        x.carbon(2, 3);
        DUE.is("the carbon with the fewest uses", x.lasts(5), 3);
        x.carbon(0, 2);
        DUE.is("the top one's carbon", x.lasts(5), 2);
        x.carbon(3, 1);
        DUE.is("the last carbon that is used", x.lasts(5), 1);
        x.carbon(2, 0);
        DUE.is("an empty carbon", x.lasts(9), 0);
        for (int sheet = 0; sheet < 4; sheet++) {
            x.carbon(sheet, 300);
        }
        DUE.is("the most", x.lasts(9), 300);
        x.carbon(0, 1);
        x.tear(0);
        DUE.is("a torn sheet's carbon does not matter", x.lasts(4), 300);
        x.tear(1);
        x.tear(1);
        x.tear(1);
        DUE.is("one sheet", x.lasts(1), 1000);
        x.carbon(1, 0);
        DUE.is("one sheet, an empty carbon", x.lasts(9), 1000);
        x.tear(1);
        DUE.is("no stack", x.lasts(9), CarbonSheets.NOT_POSSIBLE);
    }

    private static void ifWritten() {
        CarbonSheets x = new CarbonSheets();
        DUE.is("ifWritten(0, 0, 9)", x.ifWritten(0, 0, 9), 0);
        DUE.is("too faint to be read", x.ifWritten(0, 7, 1), CarbonSheets.NONE);
        x.write(0, 500, 5);
        DUE.is("over it, with the same pressure", x.ifWritten(0, 700, 5), 700);
        DUE.is("the top one would be unclear", x.ifWritten(0, 700, 2), 500);
        x.set(CarbonSheets.OVER, 5);
        DUE.is("the top one would be clear", x.ifWritten(0, 700, 2), 500);
        DUE.is("five votes against five", x.ifWritten(0, 999, 3), CarbonSheets.NONE);
        DUE.is("nine votes against two", x.ifWritten(0, 999, 4), 999);
        x.tear(0);
        x.amend(0, 0, 7, 9);
        DUE.is("a conflict as it is", x.ifWritten(0, 500, 1), CarbonSheets.NONE);
        DUE.is("500 would win", x.ifWritten(0, 500, 5), 500);
        DUE.is("8 would win", x.ifWritten(0, 8, 6), 8);
        DUE.is("8 against 7", x.ifWritten(0, 8, 3), 7);
        DUE.is("a full field", Forms.full().ifWritten(4, 1, 1), CarbonSheets.TOO_MANY);
        DUE.is("no stack", Forms.torn().ifWritten(4, 1, 1), CarbonSheets.NOT_POSSIBLE);
    }
}
