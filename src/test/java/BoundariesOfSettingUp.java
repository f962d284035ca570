/** The boundary cases of promises 1 to 4. */
final class BoundariesOfSettingUp {
    private static final int NO_SUCH = CarbonSheets.NO_SUCH, BAD_VALUE = CarbonSheets.BAD_VALUE,
        NOT_POSSIBLE = CarbonSheets.NOT_POSSIBLE, NONE = CarbonSheets.NONE;

    private BoundariesOfSettingUp() { }

    @Sentence(in = "Promise 1", says = "Creates a stack of sheets without marks.")
    static void p01EverythingIsEmptyButTheStack(Due due) {
        CarbonSheets x = new CarbonSheets();
        due.is("the stack", x.count(2), 31);
        due.is("all marks", x.count(3), 0);
        due.is("the fields with one value", x.count(4), 0);
        due.is("the fields in conflict", x.count(5), 0);
        for (int sheet = 0; sheet < 5; sheet++) {
            for (int what = 2; what < 8; what++) {
                due.is("ofSheet(" + sheet + ", " + what + ")", x.ofSheet(sheet, what), 0);
            }
            for (int field = 0; field < 10; field++) {
                due.is("ofMark(" + sheet + ", " + field + ", 0, 0)", x.ofMark(sheet, field, 0, 0), NO_SUCH);
                due.is("reading(" + sheet + ", " + field + ", 0)", x.reading(sheet, field, 0), CarbonSheets.EMPTY);
                due.is("reading(" + sheet + ", " + field + ", 1)", x.reading(sheet, field, 1), NONE);
            }
        }
        due.is("the pad", x.count(6), 0);
        due.is("the history", x.count(7), 0);
        due.is("undo()", x.undo(), NOT_POSSIBLE);
        due.is("slot 0", x.restore(0), NOT_POSSIBLE);
        due.is("slot 1", x.restore(1), NOT_POSSIBLE);
        x.write(0, 1, 9);
        due.is("another object has no mark of it", new CarbonSheets().count(3), 0);
    }

    @Sentence(in = "Promise 2", says = "Changes a setting. This is a change.")
    static void p02IsAChange(Due due) {
        due.isChange("set(0, 1)", Forms::withShortHistory, x -> x.set(0, 1));
        due.isChange("set(0, 9)", Forms::withShortHistory, x -> x.set(0, 9));
        due.isChange("set(1, 0)", Forms::withShortHistory, x -> x.set(1, 0));
        due.isChange("set(1, 5)", Forms::withShortHistory, x -> x.set(1, 5));
        due.isChange("set(0, 2) as it is", Forms::withShortHistory, x -> x.set(0, 2));
    }

    @Sentence(in = "Promise 2", says = "Returns the previous value;")
    static void p02ReturnsThePreviousValue(Due due) {
        CarbonSheets x = new CarbonSheets();
        int faint = 2;
        int over = 1;
        for (int value : new int[] {9, 1, 1, 5, 2, 9, 9}) {
            due.is("set(0, " + value + ")", x.set(0, value), faint);
            due.is("count(8)", x.count(8), value);
            faint = value;
        }
        for (int value : new int[] {5, 0, 0, 1, 5, 5}) {
            due.is("set(1, " + value + ")", x.set(1, value), over);
            due.is("count(9)", x.count(9), value);
            over = value;
        }
        due.is("FAINT has stayed", x.count(8), 9);
    }

    @Sentence(in = "Promise 2", says = "BAD_VALUE if there is no such setting,")
    static void p02NoSuchSettingIsABadValue(Due due) {
        due.refusedOutside("set(?, 3)", 0, 1, Forms::used, (x, setting) -> x.set(setting, 3), BAD_VALUE);
        due.refusedOutside("set(?, 10)", 0, 1, Forms::used, (x, setting) -> x.set(setting, 10), BAD_VALUE);
    }

    @Sentence(in = "Promise 2", says = "or the value is out of its range.")
    static void p02AValueOutOfItsRangeIsABadValue(Due due) {
        due.refusedOutside("set(0, ?)", 1, 9, Forms::used, (x, value) -> x.set(0, value), BAD_VALUE);
        due.refusedOutside("set(1, ?)", 0, 5, Forms::used, (x, value) -> x.set(1, value), BAD_VALUE);
        CarbonSheets x = new CarbonSheets();
        due.is("0 is in the range of OVER alone", x.set(1, 0), 1);
        due.is("6 is in the range of FAINT alone", x.set(0, 6), 2);
    }

    @Sentence(in = "Promise 3", says = "Changes the thickness of a sheet. This is a change.")
    static void p03IsAChange(Due due) {
        due.isChange("thickness(0, 0), apart", Forms::withShortHistory, x -> x.thickness(0, 0));
        due.isChange("thickness(1, 4), the top one", Forms::withShortHistory, x -> x.thickness(1, 4));
        due.isChange("thickness(3, 4), the lowest one", Forms::withShortHistory, x -> x.thickness(3, 4));
        due.isChange("thickness(2, 1) as it is", Forms::withShortHistory, x -> x.thickness(2, 1));
    }

    @Sentence(in = "Promise 3", says = "`thickness`: 0 to 4")
    static void p03AThicknessOf0And4(Due due) {
        CarbonSheets x = new CarbonSheets();
        x.thickness(0, 0);
        due.is("nothing is lost by a thickness of 0", x.write(0, 1, 1), 2);
        x.thickness(0, 4);
        due.is("4 are lost by a thickness of 4", x.write(0, 1, 4), 1);
        due.is("5 come through it", x.write(0, 1, 5), 2);
        due.is("thickness(0, 5)", x.thickness(0, 5), BAD_VALUE);
        due.is("thickness(0, -1)", x.thickness(0, -1), BAD_VALUE);
        due.is("ofSheet(0, 0)", x.ofSheet(0, 0), 4);
    }

    @Sentence(in = "Promise 3", says = "Returns the previous thickness;")
    static void p03ReturnsThePreviousThickness(Due due) {
        CarbonSheets x = Forms.stackOf(1, 3);
        for (int sheet = 0; sheet < 5; sheet++) {
            int previous = 1;
            for (int thickness : new int[] {0, 4, 4, 0, sheet}) {
                due.is("thickness(" + sheet + ", " + thickness + ")", x.thickness(sheet, thickness), previous);
                due.is("ofSheet(" + sheet + ", 0)", x.ofSheet(sheet, 0), thickness);
                previous = thickness;
            }
        }
        for (int sheet = 0; sheet < 5; sheet++) {
            due.is("each sheet has its own: " + sheet, x.ofSheet(sheet, 0), sheet);
        }
    }

    @Sentence(in = "Promise 3", says = "NO_SUCH if there is no such sheet;")
    static void p03NoSuchSheetIsTheFirstError(Due due) {
        due.refusedOutside("thickness(?, 2)", 0, 4, Forms::used, (x, sheet) -> x.thickness(sheet, 2), NO_SUCH);
        due.refusedOutside("thickness(?, 5)", 0, 4, Forms::used, (x, sheet) -> x.thickness(sheet, 5), NO_SUCH);
    }

    @Sentence(in = "Promise 3", says = "BAD_VALUE if thickness is out of range.")
    static void p03AThicknessOutOfRange(Due due) {
        due.refusedOutside("thickness(0, ?)", 0, 4, Forms::used, (x, thickness) -> x.thickness(0, thickness), BAD_VALUE);
        due.refusedOutside("thickness(3, ?)", 0, 4, Forms::used, (x, thickness) -> x.thickness(3, thickness), BAD_VALUE);
    }

    @Sentence(in = "Promise 4", says = "Lays a new carbon under a sheet of the stack. This is a change.")
    static void p04IsAChange(Due due) {
        due.isChange("carbon(1, 300)", Forms::withShortHistory, x -> x.carbon(1, 300));
        due.isChange("carbon(3, 0), the lowest one", Forms::withShortHistory, x -> x.carbon(3, 0));
        due.isChange("carbon(3, 60)", Forms::withShortHistory, x -> x.carbon(3, 60));
        due.isChange("carbon(0, 60) as it is", CarbonSheets::new, x -> x.carbon(0, 60));
    }

    @Sentence(in = "Promise 4", says = "`uses`: 0 to 300")
    static void p04UsesOf0And300(Due due) {
        CarbonSheets x = new CarbonSheets();
        x.carbon(0, 0);
        due.is("nothing comes through without a use", x.write(0, 1, 9), 1);
        x.carbon(0, 1);
        due.is("one press comes through with one", x.write(0, 1, 9), 5);
        due.is("and no second one", x.write(0, 1, 9), 1);
        CarbonSheets y = Forms.stackOf(0, 1);
        y.carbon(0, 300);
        for (int press = 1; press <= 300; press++) {
            y.strike(0, 2);
            due.is("the uses after press " + press, y.ofSheet(0, 1), 300 - press);
        }
        due.is("a press after the 300th", y.write(0, 1, 9), 1);
        due.is("carbon(0, 301)", y.carbon(0, 301), BAD_VALUE);
        due.is("carbon(0, -1)", y.carbon(0, -1), BAD_VALUE);
        due.is("ofSheet(0, 1)", y.ofSheet(0, 1), 0);
    }

    @Sentence(in = "Promise 4", says = "Returns the uses that were left;")
    static void p04ReturnsTheUsesThatWereLeft(Due due) {
        CarbonSheets x = new CarbonSheets();
        for (int sheet = 0; sheet < 5; sheet++) {
            int previous = 60;
            for (int uses : new int[] {0, 300, 300, 1, 256 + sheet}) {
                due.is("carbon(" + sheet + ", " + uses + ")", x.carbon(sheet, uses), previous);
                due.is("ofSheet(" + sheet + ", 1)", x.ofSheet(sheet, 1), uses);
                previous = uses;
            }
        }
        x.write(0, 1, 9);
        for (int sheet = 0; sheet < 5; sheet++) {
            due.is("after a press: " + sheet, x.carbon(sheet, 5), sheet < 4 ? 255 + sheet : 260);
        }
    }

    @Sentence(in = "Promise 4", says = "NO_SUCH if there is no such sheet;")
    static void p04NoSuchSheetIsTheFirstError(Due due) {
        due.refusedOutside("carbon(?, 9)", 0, 4, Forms::used, (x, sheet) -> x.carbon(sheet, 9), NO_SUCH);
        due.refusedOutside("carbon(?, 301)", 0, 4, Forms::torn, (x, sheet) -> x.carbon(sheet, 301), NO_SUCH);
    }

    @Sentence(in = "Promise 4", says = "BAD_VALUE if uses is out of range;")
    static void p04UsesOutOfRangeBeforeASheetApart(Due due) {
        due.refusedOutside("carbon(1, ?)", 0, 300, Forms::used, (x, uses) -> x.carbon(1, uses), BAD_VALUE);
        due.refusedOutside("carbon(0, ?), apart", 0, 300, Forms::used, (x, uses) -> x.carbon(0, uses), BAD_VALUE);
    }

    @Sentence(in = "Promise 4", says = "NOT_POSSIBLE if the sheet is apart.")
    static void p04ASheetApartGetsNoCarbon(Due due) {
        Forms.eachStack((top, low) -> {
            CarbonSheets x = Forms.stackOf(top, low);
            for (int sheet = 0; sheet < 5; sheet++) {
                boolean isApart = sheet < top || sheet > low;
                due.is("stack " + top + " to " + low + ": carbon(" + sheet + ", 0)", x.carbon(sheet, 0), isApart ? NOT_POSSIBLE : 60);
                due.is("its uses", x.ofSheet(sheet, 1), isApart ? 60 : 0);
            }
        });
        for (int sheet : new int[] {0, 4}) {
            due.refused("carbon(" + sheet + ", 0), apart", Forms::used, x -> x.carbon(sheet, 0), NOT_POSSIBLE);
        }
        for (int sheet = 0; sheet < 5; sheet++) {
            int apart = sheet;
            due.refused("carbon(" + sheet + ", 300), without a stack", Forms::torn, x -> x.carbon(apart, 300), NOT_POSSIBLE);
        }
    }
}
