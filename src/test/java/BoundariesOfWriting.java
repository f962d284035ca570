import java.util.function.Supplier;

/** The boundary cases of promises 5 to 9. */
final class BoundariesOfWriting {
    private static final int NO_SUCH = CarbonSheets.NO_SUCH, BAD_VALUE = CarbonSheets.BAD_VALUE,
        TOO_MANY = CarbonSheets.TOO_MANY, NOT_POSSIBLE = CarbonSheets.NOT_POSSIBLE;

    private BoundariesOfWriting() { }

    @Sentence(in = "Promise 5", says = "Writes a value at a field. This is a change.")
    static void p05IsAChange(Due due) {
        due.isChange("write(0, 0, 1)", Forms::withShortHistory, x -> x.write(0, 0, 1));
        due.isChange("write(9, 999, 9)", Forms::withShortHistory, x -> x.write(9, 999, 9));
        due.isChange("an eighth mark", BoundariesOfWriting::withSevenMarks, x -> x.write(4, 7, 9));
    }

    /** A form with 7 marks at field 4 of each sheet, and room in its history. */
    private static CarbonSheets withSevenMarks() {
        CarbonSheets x = new CarbonSheets();
        for (int i = 0; i < 8; i++) {
            x.write(4, i, 9);
        }
        x.undo();
        return x;
    }

    @Sentence(in = "Promise 5", says = "`value`: 0 to 999")
    static void p05AValueIs0To999(Due due) {
        CarbonSheets x = new CarbonSheets();
        due.is("write(0, 0, 9)", x.write(0, 0, 9), 5);
        due.is("write(0, 999, 9)", x.write(0, 999, 9), 5);
        due.is("the value of the first one", x.ofMark(4, 0, 0, 0), 0);
        due.is("the value of the second one", x.ofMark(4, 0, 1, 0), 999);
        due.is("write(0, 1000, 9)", x.write(0, 1000, 9), BAD_VALUE);
        due.is("write(0, -1, 9)", x.write(0, -1, 9), BAD_VALUE);
    }

    @Sentence(in = "Promise 5", says = "`pressure`: 1 to 9")
    static void p05APressureIs1To9(Due due) {
        CarbonSheets x = new CarbonSheets();
        due.is("write(0, 5, 1)", x.write(0, 5, 1), 1);
        due.is("write(0, 5, 9)", x.write(0, 5, 9), 5);
        due.is("the strength of the first one", x.ofMark(0, 0, 0, 1), 1);
        due.is("the strength of the second one", x.ofMark(0, 0, 1, 1), 9);
        due.is("write(0, 5, 0)", x.write(0, 5, 0), BAD_VALUE);
        due.is("write(0, 5, 10)", x.write(0, 5, 10), BAD_VALUE);
    }

    @Sentence(in = "Promise 5", says = "Returns to how many sheets it came;")
    static void p05ReturnsToHowManySheetsItCame(Due due) {
        Forms.eachStack((top, low) -> {
            for (int pressure = 1; pressure <= 9; pressure++) {
                CarbonSheets x = Forms.stackOf(top, low);
                int sheets = low - top + 1;
                String call = "stack " + top + " to " + low + ": write(0, 5, " + pressure + ")";
                due.is(call, x.write(0, 5, pressure), Math.min(pressure, sheets));
                due.is(call + ": all marks", x.count(3), Math.min(pressure, sheets));
            }
        });
    }

    @Sentence(in = "Promise 5", says = "NO_SUCH if there is no such field;")
    static void p05NoSuchFieldIsTheFirstError(Due due) {
        due.refusedOutside("write(?, 5, 5)", 0, 9, Forms::used, (x, field) -> x.write(field, 5, 5), NO_SUCH);
        due.refusedOutside("write(?, 1000, 0), without a stack", 0, 9, Forms::torn, (x, field) -> x.write(field, 1000, 0), NO_SUCH);
    }

    @Sentence(in = "Promise 5", says = "BAD_VALUE if value or pressure is out of range;")
    static void p05AValueOrPressureOutOfRangeIsTheSecondError(Due due) {
        due.refusedOutside("write(0, ?, 5)", 0, 999, Forms::used, (x, value) -> x.write(0, value, 5), BAD_VALUE);
        due.refusedOutside("write(0, 5, ?)", 1, 9, Forms::used, (x, pressure) -> x.write(0, 5, pressure), BAD_VALUE);
        due.refusedOutside("write(4, ?, 5), without a stack", 0, 999, Forms::fullTorn, (x, value) -> x.write(4, value, 5), BAD_VALUE);
        due.refusedOutside("write(4, 5, ?), without a stack", 1, 9, Forms::fullTorn, (x, pressure) -> x.write(4, 5, pressure), BAD_VALUE);
        due.refusedOutside("write(4, ?, 1), full", 0, 999, Forms::full, (x, value) -> x.write(4, value, 1), BAD_VALUE);
        due.refusedOutside("write(4, 5, ?), full", 1, 9, Forms::full, (x, pressure) -> x.write(4, 5, pressure), BAD_VALUE);
    }

    @Sentence(in = "Promise 5", says = "NOT_POSSIBLE if the stack is empty;")
    static void p05AnEmptyStackIsTheThirdError(Due due) {
        due.refused("write(0, 5, 5), torn", Forms::torn, x -> x.write(0, 5, 5), NOT_POSSIBLE);
        due.refused("write(4, 5, 1), torn, of a field that was full", Forms::fullTorn, x -> x.write(4, 5, 1), NOT_POSSIBLE);
        CarbonSheets x = Forms.stackOf(2, 2);
        due.is("with one sheet left", x.write(0, 5, 9), 1);
        x.tear(1);
        due.is("with none left", x.write(0, 5, 9), NOT_POSSIBLE);
        x.undo();
        due.is("with the one that undo() brings back", x.write(0, 5, 9), 1);
    }

    @Sentence(in = "Promise 5", says = "TOO_MANY if a sheet to which it would come has 8 marks there.")
    static void p05EightMarksOnASheetToWhichItWouldComeAreTheLastError(Due due) {
        due.refused("write(4, 5, 1)", Forms::full, x -> x.write(4, 5, 1), TOO_MANY);
        due.refused("write(4, 5, 9)", Forms::full, x -> x.write(4, 5, 9), TOO_MANY);
        CarbonSheets x = Forms.full();
        due.is("the field before", x.write(3, 5, 9), 5);
        due.is("the field behind", x.write(5, 5, 9), 5);
        x.strike(4, 9);
        due.is("struck marks count, too", x.write(4, 5, 9), TOO_MANY);
        x.tear(0);
        due.is("the next sheet is full, too", x.write(4, 5, 9), TOO_MANY);
        x.tear(0);
        due.is("those below have 7 marks", x.write(4, 5, 1), 1);
        due.is("now the top one has 8", x.write(4, 5, 1), TOO_MANY);
        due.is("also if it would come deeper", x.write(4, 5, 9), TOO_MANY);
        x.undo();
        due.is("with 7 again", x.write(4, 5, 9), 3);
        due.is("with 8 again", x.write(4, 5, 9), TOO_MANY);
        for (int sheet = 0; sheet < 5; sheet++) {
            CarbonSheets one = Forms.stackOf(sheet, sheet);
            for (int marks = 1; marks <= 8; marks++) {
                due.is("mark " + marks + " on sheet " + sheet + " alone", one.write(0, marks, 9), 1);
            }
            due.is("a ninth one on sheet " + sheet + " alone", one.write(0, 9, 9), TOO_MANY);
        }
    }

    @Sentence(in = "Promise 6", says = "Strikes a field. This is a change.")
    static void p06IsAChange(Due due) {
        due.isChange("strike(0, 9)", Forms::withShortHistory, x -> x.strike(0, 9));
        due.isChange("strike(0, 1)", Forms::withShortHistory, x -> x.strike(0, 1));
        due.isChange("strike(9, 1), where no mark is", Forms::withShortHistory, x -> x.strike(9, 1));
        due.isChange("strike(0, 9) of 40 marks", Forms::withAllMarks, x -> x.strike(0, 9));
        due.isChange("strike(9, 9) of 40 marks", Forms::withAllMarks, x -> x.strike(9, 9));
    }

    @Sentence(in = "Promise 6", says = "`pressure`: 1 to 9")
    static void p06APressureIs1To9(Due due) {
        CarbonSheets x = new CarbonSheets();
        x.write(0, 5, 1);
        x.write(0, 5, 9);
        due.is("strike(0, 0)", x.strike(0, 0), BAD_VALUE);
        due.is("strike(0, 10)", x.strike(0, 10), BAD_VALUE);
        due.is("strike(0, 1)", x.strike(0, 1), 1);
        due.is("strike(0, 8)", x.strike(0, 8), 0);
        due.is("strike(0, 9)", x.strike(0, 9), 5);
    }

    @Sentence(in = "Promise 6", says = "Returns how many marks are struck by this (that were not struck before), on all sheets;")
    static void p06ReturnsHowManyMarksAreStruckByThis(Due due) {
        CarbonSheets x = new CarbonSheets();
        due.is("of no mark", x.strike(9, 9), 0);
        for (int i = 0; i < 8; i++) {
            x.write(9, i, 9);
            x.write(8, i, 9);
        }
        due.is("with less than each mark has", x.strike(9, 8), 0);
        due.is("of 8 marks on each of 5 sheets", x.strike(9, 9), 40);
        due.is("of those that were struck before", x.strike(9, 9), 0);
        due.is("another field is not struck", x.ofSheet(0, 4), 8);
        x.paint(0, 8);
        due.is("of those that were not painted before", x.strike(8, 9), 32);
        due.is("all that are struck", x.ofSheet(4, 4), 16);
    }

    @Sentence(in = "Promise 6", says = "NO_SUCH if there is no such field;")
    static void p06NoSuchFieldIsTheFirstError(Due due) {
        due.refusedOutside("strike(?, 5)", 0, 9, Forms::used, (x, field) -> x.strike(field, 5), NO_SUCH);
        due.refusedOutside("strike(?, 0), without a stack", 0, 9, Forms::torn, (x, field) -> x.strike(field, 0), NO_SUCH);
    }

    @Sentence(in = "Promise 6", says = "BAD_VALUE if pressure is out of range;")
    static void p06APressureOutOfRangeIsTheSecondError(Due due) {
        due.refusedOutside("strike(0, ?)", 1, 9, Forms::used, (x, pressure) -> x.strike(0, pressure), BAD_VALUE);
        due.refusedOutside("strike(0, ?), without a stack", 1, 9, Forms::torn, (x, pressure) -> x.strike(0, pressure), BAD_VALUE);
    }

    @Sentence(in = "Promise 6", says = "NOT_POSSIBLE if the stack is empty.")
    static void p06AnEmptyStackIsTheLastError(Due due) {
        due.refused("strike(0, 1), torn", Forms::torn, x -> x.strike(0, 1), NOT_POSSIBLE);
        due.refused("strike(9, 9), torn, where no mark is", Forms::torn, x -> x.strike(9, 9), NOT_POSSIBLE);
        CarbonSheets x = Forms.stackOf(4, 4);
        due.is("with one sheet left", x.strike(0, 9), 0);
        x.tear(0);
        due.is("with none left", x.strike(0, 9), NOT_POSSIBLE);
    }

    @Sentence(in = "Promise 7", says = "Paints a field of a sheet over. This is a change.")
    static void p07IsAChange(Due due) {
        due.isChange("paint(1, 0), the top one", Forms::withShortHistory, x -> x.paint(1, 0));
        due.isChange("paint(0, 0), apart", Forms::withShortHistory, x -> x.paint(0, 0));
        due.isChange("paint(4, 9), apart, where no mark is", Forms::withShortHistory, x -> x.paint(4, 9));
        due.isChange("paint(1, 9), the top one, where no mark is", Forms::withShortHistory, x -> x.paint(1, 9));
        due.isChange("paint(0, 0) of 8 marks", Forms::withAllMarks, x -> x.paint(0, 0));
        due.isChange("paint(0, 9) of 8 marks", Forms::withAllMarks, x -> x.paint(0, 9));
    }

    @Sentence(in = "Promise 7", says = "Returns how many marks are struck by this;")
    static void p07ReturnsHowManyMarksAreStruckByThis(Due due) {
        CarbonSheets x = new CarbonSheets();
        for (int marks = 0; marks <= 8; marks++) {
            CarbonSheets y = new CarbonSheets();
            for (int i = 0; i < marks; i++) {
                y.write(9, i, 1 + i);
            }
            due.is("of " + marks, y.paint(0, 9), marks);
            due.is("of those that are struck", y.paint(0, 9), 0);
        }
        x.write(0, 5, 9);
        x.strike(0, 9);
        x.write(0, 5, 9);
        x.write(1, 5, 9);
        due.is("of one that is struck and one that is not", x.paint(0, 0), 1);
        due.is("another field is not painted", x.reading(0, 1, 4), 1);
        due.is("another sheet is not painted", x.reading(1, 0, 4), 1);
    }

    @Sentence(in = "Promise 7", says = "NO_SUCH if there is no such sheet or field;")
    static void p07NoSuchSheetOrFieldIsTheFirstError(Due due) {
        due.refusedOutside("paint(?, 0)", 0, 4, Forms::used, (x, sheet) -> x.paint(sheet, 0), NO_SUCH);
        due.refusedOutside("paint(1, ?), the top one", 0, 9, Forms::used, (x, field) -> x.paint(1, field), NO_SUCH);
        due.refusedOutside("paint(0, ?), apart", 0, 9, Forms::used, (x, field) -> x.paint(0, field), NO_SUCH);
        due.refusedOutside("paint(2, ?), below the top one", 0, 9, Forms::used, (x, field) -> x.paint(2, field), NO_SUCH);
    }

    @Sentence(in = "Promise 7", says = "NOT_POSSIBLE if the sheet is in the stack and not its top one.")
    static void p07ASheetBelowTheTopOneIsTheLastError(Due due) {
        for (int sheet = 1; sheet < 5; sheet++) {
            int below = sheet;
            due.refused("paint(" + sheet + ", 4)", Forms::full, x -> x.paint(below, 4), NOT_POSSIBLE);
        }
        due.refused("paint(3, 0), the lowest one", Forms::used, x -> x.paint(3, 0), NOT_POSSIBLE);
        CarbonSheets x = Forms.full();
        due.is("the top one", x.paint(0, 4), 8);
        due.is("the next one, before", x.paint(1, 4), NOT_POSSIBLE);
        x.tear(0);
        due.is("the next one, then", x.paint(1, 4), 8);
        due.is("the one that is apart", x.paint(0, 4), 0);
        due.is("the lowest one, before", x.paint(4, 4), NOT_POSSIBLE);
        x.tear(1);
        due.is("the lowest one, then", x.paint(4, 4), 7);
        x.tear(0);
        x.tear(0);
        due.is("one that is the top one and the lowest one", x.paint(3, 4), 7);
        x.tear(0);
        due.is("without a stack", x.paint(2, 4), 7);
    }

    @Sentence(in = "Promise 8", says = "Amends a field of a sheet that is apart. This is a change.")
    static void p08IsAChange(Due due) {
        due.isChange("amend(0, 0, 0, 1)", Forms::withShortHistory, x -> x.amend(0, 0, 0, 1));
        due.isChange("amend(4, 9, 999, 9)", Forms::withShortHistory, x -> x.amend(4, 9, 999, 9));
    }

    @Sentence(in = "Promise 8", says = "`value`: 0 to 999")
    static void p08AValueIs0To999(Due due) {
        CarbonSheets x = Forms.apart();
        due.is("amend(4, 9, 0, 5)", x.amend(4, 9, 0, 5), 1);
        due.is("amend(4, 9, 999, 5)", x.amend(4, 9, 999, 5), 2);
        due.is("the value of the first one", x.ofMark(4, 9, 0, 0), 0);
        due.is("the value of the second one", x.ofMark(4, 9, 1, 0), 999);
        due.is("amend(4, 9, 1000, 5)", x.amend(4, 9, 1000, 5), BAD_VALUE);
        due.is("amend(4, 9, -1, 5)", x.amend(4, 9, -1, 5), BAD_VALUE);
    }

    @Sentence(in = "Promise 8", says = "`pressure`: 1 to 9")
    static void p08APressureIs1To9(Due due) {
        CarbonSheets x = Forms.apart();
        due.is("amend(0, 0, 5, 1)", x.amend(0, 0, 5, 1), 1);
        due.is("amend(0, 0, 5, 9)", x.amend(0, 0, 5, 9), 2);
        due.is("the strength of the first one", x.ofMark(0, 0, 0, 1), 1);
        due.is("the strength of the second one", x.ofMark(0, 0, 1, 1), 9);
        due.is("amend(0, 0, 5, 0)", x.amend(0, 0, 5, 0), BAD_VALUE);
        due.is("amend(0, 0, 5, 10)", x.amend(0, 0, 5, 10), BAD_VALUE);
    }

    @Sentence(in = "Promise 8", says = "Returns how many marks the sheet has there then;")
    static void p08ReturnsHowManyMarksTheSheetHasThereThen(Due due) {
        CarbonSheets x = Forms.apart();
        x.amend(0, 8, 1, 1);
        x.amend(1, 9, 1, 1);
        for (int marks = 1; marks <= 8; marks++) {
            due.is("mark " + marks, x.amend(0, 9, 1, 1), marks);
            x.paint(0, 9);
        }
        CarbonSheets written = new CarbonSheets();
        written.write(0, 5, 9);
        written.tear(1);
        due.is("with one that was written", written.amend(4, 0, 6, 1), 2);
        due.is("on another sheet", written.reading(3, 0, 3), 1);
    }

    @Sentence(in = "Promise 8", says = "NO_SUCH if there is no such sheet or field;")
    static void p08NoSuchSheetOrFieldIsTheFirstError(Due due) {
        due.refusedOutside("amend(?, 0, 5, 5)", 0, 4, Forms::used, (x, sheet) -> x.amend(sheet, 0, 5, 5), NO_SUCH);
        due.refusedOutside("amend(0, ?, 5, 5)", 0, 9, Forms::used, (x, field) -> x.amend(0, field, 5, 5), NO_SUCH);
        due.refusedOutside("amend(?, 0, 1000, 0)", 0, 4, Forms::used, (x, sheet) -> x.amend(sheet, 0, 1000, 0), NO_SUCH);
        due.refusedOutside("amend(1, ?, -1, 10), in the stack", 0, 9, Forms::used, (x, field) -> x.amend(1, field, -1, 10), NO_SUCH);
    }

    @Sentence(in = "Promise 8", says = "BAD_VALUE if value or pressure is out of range;")
    static void p08AValueOrPressureOutOfRangeIsTheSecondError(Due due) {
        amendIsBad(due, "apart", 0, Forms::used);
        amendIsBad(due, "in the stack", 1, Forms::used);
        amendIsBad(due, "full", 0, Forms::fullApart);
    }

    private static void amendIsBad(Due due, String how, int sheet, Supplier<CarbonSheets> maker) {
        due.refusedOutside("amend(" + sheet + ", 4, ?, 5), " + how, 0, 999, maker, (x, value) -> x.amend(sheet, 4, value, 5), BAD_VALUE);
        due.refusedOutside("amend(" + sheet + ", 4, 5, ?), " + how, 1, 9, maker, (x, pressure) -> x.amend(sheet, 4, 5, pressure), BAD_VALUE);
    }

    @Sentence(in = "Promise 8", says = "NOT_POSSIBLE if the sheet is in the stack;")
    static void p08ASheetInTheStackIsTheThirdError(Due due) {
        for (int sheet = 0; sheet < 5; sheet++) {
            int stacked = sheet;
            due.refused("amend(" + sheet + ", 3, 5, 5)", Forms::full, x -> x.amend(stacked, 3, 5, 5), NOT_POSSIBLE);
        }
        due.refused("amend(0, 4, 5, 5), full", Forms::full, x -> x.amend(0, 4, 5, 5), NOT_POSSIBLE);
        CarbonSheets x = Forms.stackOf(2, 2);
        due.is("the only one of the stack", x.amend(2, 0, 5, 5), NOT_POSSIBLE);
        x.tear(1);
        due.is("the same, apart", x.amend(2, 0, 5, 5), 1);
    }

    @Sentence(in = "Promise 8", says = "TOO_MANY if it has 8 marks there.")
    static void p08EightMarksAreTheLastError(Due due) {
        due.refused("amend(0, 4, 5, 5)", Forms::fullApart, x -> x.amend(0, 4, 5, 5), TOO_MANY);
        CarbonSheets x = Forms.fullTorn();
        due.is("a full field", x.amend(0, 4, 5, 5), TOO_MANY);
        due.is("the field before", x.amend(0, 3, 5, 5), 1);
        due.is("the field behind", x.amend(0, 5, 5, 5), 1);
        due.is("a sheet with 7 marks", x.amend(2, 4, 5, 5), 8);
        due.is("now it has 8", x.amend(2, 4, 5, 5), TOO_MANY);
        x.undo();
        due.is("and 7 again", x.amend(2, 4, 6, 6), 8);
        x.paint(0, 4);
        due.is("struck marks count, too", x.amend(0, 4, 5, 5), TOO_MANY);
    }

    @Sentence(in = "Promise 9", says = "Tears a sheet off the stack. This is a change.")
    static void p09IsAChange(Due due) {
        due.isChange("tear(0)", Forms::withShortHistory, x -> x.tear(0));
        due.isChange("tear(1)", Forms::withShortHistory, x -> x.tear(1));
        due.isChange("tear(0) of the last one", () -> Forms.stackOf(3, 3), x -> x.tear(0));
        due.isChange("tear(1) of the last one", () -> Forms.stackOf(3, 3), x -> x.tear(1));
    }

    @Sentence(in = "Promise 9", says = "`side`: 0 the top one, 1 the lowest one")
    static void p09ASideIs0Or1(Due due) {
        Forms.eachStack((top, low) -> {
            CarbonSheets above = Forms.stackOf(top, low);
            CarbonSheets below = Forms.stackOf(top, low);
            int stack = above.count(2);
            due.is("stack " + top + " to " + low + ": tear(0)", above.tear(0), top);
            due.is("the stack then", above.count(2), stack & ~(1 << top));
            due.is("stack " + top + " to " + low + ": tear(1)", below.tear(1), low);
            due.is("the stack then", below.count(2), stack & ~(1 << low));
        });
    }

    @Sentence(in = "Promise 9", says = "Returns the sheet;")
    static void p09ReturnsTheSheet(Due due) {
        // Each way to tear a stack up: bit i of the way is the side of tear i.
        for (int way = 0; way < 32; way++) {
            CarbonSheets x = new CarbonSheets();
            int top = 0;
            int low = 4;
            for (int i = 0; i < 5; i++) {
                int side = way >> i & 1;
                int sheet = side == 0 ? top++ : low--;
                due.is("way " + way + ", tear " + i, x.tear(side), sheet);
                due.is("it is apart", x.ofSheet(sheet, 2), 1);
            }
            due.is("way " + way + ", the stack", x.count(2), 0);
            due.is("way " + way + ", tear 5", x.tear(way & 1), NOT_POSSIBLE);
        }
    }

    @Sentence(in = "Promise 9", says = "BAD_VALUE if side is neither 0 nor 1;")
    static void p09AnotherSideIsTheFirstError(Due due) {
        due.refusedOutside("tear(?)", 0, 1, Forms::used, CarbonSheets::tear, BAD_VALUE);
        due.refusedOutside("tear(?), without a stack", 0, 1, Forms::torn, CarbonSheets::tear, BAD_VALUE);
    }

    @Sentence(in = "Promise 9", says = "NOT_POSSIBLE if the stack is empty.")
    static void p09AnEmptyStackIsTheLastError(Due due) {
        due.refused("tear(0), torn", Forms::torn, x -> x.tear(0), NOT_POSSIBLE);
        due.refused("tear(1), torn", Forms::torn, x -> x.tear(1), NOT_POSSIBLE);
        due.is("with one sheet left", Forms.stackOf(0, 0).tear(0), 0);
        due.is("with one sheet left, from below", Forms.stackOf(0, 0).tear(1), 0);
    }
}
