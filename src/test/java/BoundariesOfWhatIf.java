/** The boundary cases of promises 15 to 19. */
final class BoundariesOfWhatIf {
    private static final int NO_SUCH = CarbonSheets.NO_SUCH, BAD_VALUE = CarbonSheets.BAD_VALUE,
        TOO_MANY = CarbonSheets.TOO_MANY, NOT_POSSIBLE = CarbonSheets.NOT_POSSIBLE, NONE = CarbonSheets.NONE;
    private static final int FAINT = CarbonSheets.FAINT, OVER = CarbonSheets.OVER;

    private BoundariesOfWhatIf() { }

    @Sentence(in = "Promise 15", says = "Finds the fields at which two sheets do not read the same (both EMPTY, both UNCLEAR, or both CLEAR with the "
        + "same value is the same).")
    static void p15TheSameIsTheSameKindAndTheSameValueIfClear(Due due) {
        int[][] marks = {{}, {7, 1}, {5, 9}, {5, 2}, {6, 9}, {0, 9}, {5, 9, 6, 2}, {6, 9, 5, 2}, {5, 9, 7, 2}};
        // What each of these reads: e for EMPTY, u for UNCLEAR, or the value.
        String reads = "ee5560uuu";
        for (int one = 0; one < marks.length; one++) {
            for (int two = 0; two < marks.length; two++) {
                CarbonSheets x = Forms.apart();
                amend(x, 1, marks[one]);
                amend(x, 4, marks[two]);
                int want = reads.charAt(one) == reads.charAt(two) ? 0 : 512;
                due.is("marks " + one + " and " + two, x.differ(1, 4), want);
                due.is("marks " + two + " and " + one, x.differ(4, 1), want);
                due.is("a sheet and itself", x.differ(1, 1), 0);
            }
        }
        due.sameAfter("differ(0, 1)", Forms::used, x -> x.differ(0, 1));
    }

    private static void amend(CarbonSheets x, int sheet, int[] marks) {
        for (int i = 0; i < marks.length; i += 2) {
            x.amend(sheet, 9, marks[i], marks[i + 1]);
        }
    }

    @Sentence(in = "Promise 15", says = "Returns the set;")
    static void p15ReturnsNoneToAllFields(Due due) {
        CarbonSheets x = Forms.stackOf(0, 3);
        due.is("no field", x.differ(0, 4), 0);
        for (int field = 0; field < 10; field++) {
            x.write(field, 5, 9);
            due.is("up to field " + field, x.differ(0, 4), (2 << field) - 1);
            due.is("two that have it", x.differ(0, 3), 0);
        }
        for (int field = 0; field < 10; field++) {
            x.amend(4, field, 5, 2);
            due.is("from field " + field + " on", x.differ(4, 0), 1023 & -2 << field);
        }
    }

    @Sentence(in = "Promise 15", says = "NO_SUCH if there is no such sheet.")
    static void p15NoSuchSheet(Due due) {
        due.refusedOutside("differ(?, 0)", 0, 4, Forms::used, (x, sheet) -> x.differ(sheet, 0), NO_SUCH);
        due.refusedOutside("differ(0, ?)", 0, 4, Forms::used, (x, sheet) -> x.differ(0, sheet), NO_SUCH);
        due.refusedOutside("differ(?, the same)", 0, 4, Forms::used, (x, sheet) -> x.differ(sheet, sheet), NO_SUCH);
    }

    @Sentence(in = "Promise 16", says = "Finds the least pressure with which a value that is written now would give a readable mark on a sheet of "
        + "the stack.")
    static void p16TheLeastPressureGivesAReadableMarkAndOneLessDoesNot(Due due) {
        for (int faint = 1; faint <= 9; faint++) {
            for (int thickness = 0; thickness <= 4; thickness++) {
                for (int sheet = 0; sheet < 5; sheet++) {
                    int enough = thickForm(faint, thickness).enoughFor(sheet);
                    String form = "FAINT " + faint + ", thickness " + thickness + ", sheet " + sheet;
                    due.is(form, enough, leastPressure(faint, thickness, sheet));
                    if (enough >= 0) {
                        CarbonSheets x = thickForm(faint, thickness);
                        x.write(0, 5, enough);
                        x.write(1, 5, enough - 1);
                        due.is(form + ": readable", x.reading(sheet, 0, 4), 1);
                        due.is(form + ": not readable with one less", x.reading(sheet, 1, 4), 0);
                    }
                }
            }
        }
        due.sameAfter("enoughFor(3)", Forms::used, x -> x.enoughFor(3));
    }

    private static CarbonSheets thickForm(int faint, int thickness) {
        CarbonSheets x = new CarbonSheets();
        x.set(FAINT, faint);
        for (int sheet = 0; sheet < 5; sheet++) {
            x.thickness(sheet, thickness);
        }
        return x;
    }

    private static int leastPressure(int faint, int thickness, int sheet) {
        int pressure = faint + thickness * sheet;
        return pressure <= 9 ? pressure : NONE;
    }

    @Sentence(in = "Promise 16", says = "Returns the pressure;")
    static void p16ReturnsThePressure1To9(Due due) {
        CarbonSheets x = new CarbonSheets();
        x.set(FAINT, 1);
        due.is("the least one", x.enoughFor(0), 1);
        x.set(FAINT, 5);
        due.is("the greatest one", x.enoughFor(4), 9);
        x.set(FAINT, 9);
        due.is("the greatest one, on the top sheet", x.enoughFor(0), 9);
        due.is("one that is just too much", x.enoughFor(1), NONE);
        due.is("a full field does not matter", Forms.full().enoughFor(0), 2);
    }

    @Sentence(in = "Promise 16", says = "NO_SUCH if there is no such sheet;")
    static void p16NoSuchSheet(Due due) {
        due.refusedOutside("enoughFor(?)", 0, 4, Forms::used, CarbonSheets::enoughFor, NO_SUCH);
        due.refusedOutside("enoughFor(?), without a stack", 0, 4, Forms::torn, CarbonSheets::enoughFor, NO_SUCH);
    }

    @Sentence(in = "Promise 16", says = "NONE if there is none, or the sheet is apart.")
    static void p16NoneIfThereIsNoneOrTheSheetIsApart(Due due) {
        for (int worn = 0; worn < 5; worn++) {
            CarbonSheets x = new CarbonSheets();
            x.carbon(worn, 0);
            for (int sheet = 0; sheet < 5; sheet++) {
                due.is("no use is left under " + worn + ": enoughFor(" + sheet + ")", x.enoughFor(sheet), sheet <= worn ? 2 + sheet : NONE);
            }
            x.carbon(worn, 1);
            due.is("one use is left under " + worn, x.enoughFor(4), 6);
        }
        Forms.eachStack((top, low) -> {
            CarbonSheets x = Forms.stackOf(top, low);
            for (int sheet = 0; sheet < 5; sheet++) {
                boolean isApart = sheet < top || sheet > low;
                due.is("stack " + top + " to " + low + ": enoughFor(" + sheet + ")", x.enoughFor(sheet), isApart ? NONE : 2 + sheet - top);
            }
        });
        for (int sheet = 0; sheet < 5; sheet++) {
            due.is("without a stack: enoughFor(" + sheet + ")", Forms.apart().enoughFor(sheet), NONE);
        }
    }

    @Sentence(in = "Promise 17", says = "Finds the least pressure with which a field would be EMPTY on all sheets of the stack if it was struck now.")
    static void p17TheLeastPressureEmptiesAndOneLessDoesNot(Due due) {
        for (int pressure = 2; pressure <= 9; pressure++) {
            for (int thickness = 0; thickness <= 4; thickness++) {
                CarbonSheets x = new CarbonSheets();
                x.write(9, 5, pressure);
                x.thickness(0, thickness);
                // The sheet below reads pressure - 1, if that is not too faint.
                int want = pressure > 2 ? Math.max(pressure, pressure - 1 + thickness) : pressure;
                String form = "pressure " + pressure + ", thickness " + thickness;
                due.is(form, x.strikeFor(9), want <= 9 ? want : NONE);
                if (want <= 9) {
                    x.strike(9, want - 1);
                    due.is(form + ": not yet with one less", x.together(9, 0), 1);
                    x.strike(9, want);
                    due.is(form + ": empty", x.together(9, 0), 0);
                }
            }
        }
        due.sameAfter("strikeFor(0)", Forms::used, x -> x.strikeFor(0));
    }

    @Sentence(in = "Promise 17", says = "Returns the pressure (1, if it is so already);")
    static void p17ReturnsThePressure1IfItIsSoAlready(Due due) {
        CarbonSheets x = new CarbonSheets();
        due.is("no mark", x.strikeFor(0), 1);
        x.carbon(0, 0);
        x.write(0, 5, 1);
        due.is("a faint mark", x.strikeFor(0), 1);
        x.set(FAINT, 1);
        due.is("one of strength 1", x.strikeFor(0), 1);
        x.write(0, 5, 2);
        due.is("one of strength 2", x.strikeFor(0), 2);
        x.write(0, 6, 9);
        due.is("one of strength 9", x.strikeFor(0), 9);
        x.write(0, 7, 1);
        due.is("the last one is weak, but the strong one would be read", x.strikeFor(0), 9);
        x.paint(0, 0);
        due.is("all struck", x.strikeFor(0), 1);
        CarbonSheets full = Forms.full();
        due.is("8 marks", full.strikeFor(4), 9);
        due.is("the field before", full.strikeFor(3), 1);
        due.is("the field behind", full.strikeFor(5), 1);
        CarbonSheets all = Forms.withAllMarks();
        for (int torn = 0; torn < 4; torn++) {
            all.tear(0);
        }
        for (int field = 0; field < 10; field++) {
            due.is("before other full fields: " + field, all.strikeFor(field), 5);
            all.strike(field, 5);
            due.is("before other full fields, struck: " + field, all.strikeFor(field), 1);
        }
    }

    @Sentence(in = "Promise 17", says = "NO_SUCH if there is no such field;")
    static void p17NoSuchField(Due due) {
        due.refusedOutside("strikeFor(?)", 0, 9, Forms::used, CarbonSheets::strikeFor, NO_SUCH);
        due.refusedOutside("strikeFor(?), without a stack", 0, 9, Forms::torn, CarbonSheets::strikeFor, NO_SUCH);
    }

    @Sentence(in = "Promise 17", says = "NONE if there is none, or the stack is empty.")
    static void p17NoneIfThereIsNoneOrTheStackIsEmpty(Due due) {
        CarbonSheets x = new CarbonSheets();
        x.write(0, 5, 9);
        x.thickness(3, 4);
        due.is("sheet 3 lets 2 of 9 through, 5 are wanted", x.strikeFor(0), NONE);
        x.thickness(3, 1);
        due.is("5 of 9 come through", x.strikeFor(0), 9);
        x.carbon(3, 0);
        due.is("no use is left above the lowest one", x.strikeFor(0), NONE);
        x.carbon(3, 1);
        due.is("one use is left", x.strikeFor(0), 9);
        x.carbon(4, 0);
        due.is("the carbon of the lowest one is not wanted", x.strikeFor(0), 9);
        x.carbon(0, 0);
        x.tear(0);
        due.is("a sheet that is apart does not count", x.strikeFor(0), 8);
        Forms.tornWhole(x);
        due.is("without a stack", x.strikeFor(0), NONE);
        due.is("without a stack, where no mark is", x.strikeFor(9), NONE);
        x.undo();
        due.is("with the sheet that undo() brings back", x.strikeFor(9), 1);
    }

    @Sentence(in = "Promise 18", says = "Tells how often one could press with a pressure from now on, so that it comes to the lowest sheet of the stack "
        + "each time.")
    static void p18SoOftenItComesToTheLowestSheetAndNoMore(Due due) {
        for (int least = 0; least < 4; least++) {
            for (int uses = 0; uses <= 3; uses++) {
                CarbonSheets x = new CarbonSheets();
                x.carbon(least, uses);
                due.is(uses + " uses under sheet " + least, x.lasts(5), uses);
                for (int press = 1; press <= uses; press++) {
                    due.is("press " + press, x.write(0, 1, 5), 5);
                    due.is("lasts(5) then", x.lasts(5), uses - press);
                }
                due.is("one press more", x.write(0, 1, 5), least + 1);
                due.is("lasts(9) then", x.lasts(9), 0);
            }
        }
        due.sameAfter("lasts(9)", Forms::used, x -> x.lasts(9));
    }

    @Sentence(in = "Promise 18", says = "`pressure`: 1 to 9")
    static void p18APressureIs1To9(Due due) {
        for (int sheets = 2; sheets <= 5; sheets++) {
            CarbonSheets x = Forms.stackOf(0, sheets - 1);
            for (int pressure = 1; pressure <= 9; pressure++) {
                due.is(sheets + " sheets: lasts(" + pressure + ")", x.lasts(pressure), pressure < sheets ? 0 : 60);
            }
        }
        CarbonSheets thin = new CarbonSheets();
        for (int sheet = 0; sheet < 4; sheet++) {
            thin.thickness(sheet, 0);
        }
        due.is("1 comes through sheets of thickness 0", thin.lasts(1), 60);
        thin.thickness(0, 4);
        thin.thickness(3, 4);
        due.is("8 does not come through 4 and 4", thin.lasts(8), 0);
        due.is("9 does", thin.lasts(9), 60);
    }

    @Sentence(in = "Promise 18", says = "Returns how often (1000 if there is one sheet in the stack);")
    static void p18ReturnsHowOften0To300Or1000(Due due) {
        CarbonSheets x = new CarbonSheets();
        for (int sheet = 0; sheet < 4; sheet++) {
            x.carbon(sheet, 300);
        }
        due.is("the most of several sheets", x.lasts(9), 300);
        x.carbon(4, 0);
        due.is("the carbon of the lowest one does not matter", x.lasts(9), 300);
        x.carbon(2, 299);
        due.is("the fewest uses count", x.lasts(9), 299);
        for (int sheet = 0; sheet < 5; sheet++) {
            CarbonSheets one = Forms.stackOf(sheet, sheet);
            one.carbon(sheet, 0);
            one.thickness(sheet, 4);
            due.is("sheet " + sheet + " alone: lasts(1)", one.lasts(1), 1000);
            due.is("sheet " + sheet + " alone: lasts(9)", one.lasts(9), 1000);
        }
        CarbonSheets two = Forms.stackOf(3, 4);
        due.is("two sheets", two.lasts(2), 60);
        two.carbon(3, 0);
        due.is("two sheets, no use left", two.lasts(9), 0);
        two.tear(1);
        due.is("one sheet, no use left", two.lasts(9), 1000);
    }

    @Sentence(in = "Promise 18", says = "BAD_VALUE if pressure is out of range;")
    static void p18APressureOutOfRangeIsTheFirstError(Due due) {
        due.refusedOutside("lasts(?)", 1, 9, Forms::used, CarbonSheets::lasts, BAD_VALUE);
        due.refusedOutside("lasts(?), one sheet", 1, 9, () -> Forms.stackOf(0, 0), CarbonSheets::lasts, BAD_VALUE);
        due.refusedOutside("lasts(?), without a stack", 1, 9, Forms::torn, CarbonSheets::lasts, BAD_VALUE);
    }

    @Sentence(in = "Promise 18", says = "NOT_POSSIBLE if the stack is empty.")
    static void p18AnEmptyStackIsTheLastError(Due due) {
        due.refused("lasts(1), without a stack", Forms::torn, x -> x.lasts(1), NOT_POSSIBLE);
        due.refused("lasts(9), without a stack", Forms::apart, x -> x.lasts(9), NOT_POSSIBLE);
    }

    @Sentence(in = "Promise 19", says = "Tells what a field would be, put together, if a value was written there now.")
    static void p19ItIsWhatTogetherTellsAfterwards(Due due) {
        for (int pressure = 1; pressure <= 9; pressure++) {
            for (int value : new int[] {0, 21, 500, 700, 999}) {
                for (int field : new int[] {0, 1, 9}) {
                    CarbonSheets x = Forms.used();
                    int told = x.ifWritten(field, value, pressure);
                    x.write(field, value, pressure);
                    int want = x.together(field, 0) == 1 ? x.together(field, 1) : NONE;
                    due.is("ifWritten(" + field + ", " + value + ", " + pressure + ")", told, want);
                }
            }
        }
        due.sameAfter("ifWritten(0, 5, 9)", Forms::used, x -> x.ifWritten(0, 5, 9));
        due.sameAfter("ifWritten(0, 5, 1)", Forms::used, x -> x.ifWritten(0, 5, 1));
    }

    @Sentence(in = "Promise 19", says = "`value`: 0 to 999")
    static void p19AValueIs0To999(Due due) {
        CarbonSheets x = new CarbonSheets();
        due.is("ifWritten(0, 0, 9)", x.ifWritten(0, 0, 9), 0);
        due.is("ifWritten(0, 999, 9)", x.ifWritten(0, 999, 9), 999);
        due.is("ifWritten(0, -1, 9)", x.ifWritten(0, -1, 9), BAD_VALUE);
        due.is("ifWritten(0, 1000, 9)", x.ifWritten(0, 1000, 9), BAD_VALUE);
    }

    @Sentence(in = "Promise 19", says = "`pressure`: 1 to 9")
    static void p19APressureIs1To9(Due due) {
        CarbonSheets x = new CarbonSheets();
        due.is("ifWritten(0, 5, 1), too faint", x.ifWritten(0, 5, 1), NONE);
        x.set(FAINT, 1);
        due.is("ifWritten(0, 5, 1)", x.ifWritten(0, 5, 1), 5);
        x.set(FAINT, 9);
        due.is("ifWritten(0, 5, 9)", x.ifWritten(0, 5, 9), 5);
        due.is("ifWritten(0, 5, 0)", x.ifWritten(0, 5, 0), BAD_VALUE);
        due.is("ifWritten(0, 5, 10)", x.ifWritten(0, 5, 10), BAD_VALUE);
    }

    @Sentence(in = "Promise 19", says = "Returns the value that it would have;")
    static void p19ReturnsTheValueThatItWouldHave(Due due) {
        CarbonSheets x = Forms.stackOf(0, 1);
        x.amend(4, 0, 7, 5);
        due.is("3 + 2 votes against 5", x.ifWritten(0, 0, 3), NONE);
        due.is("4 + 3 votes against 5", x.ifWritten(0, 0, 4), 0);
        due.is("2 votes against 5", x.ifWritten(0, 0, 2), 7);
        due.is("with those that are there", x.ifWritten(0, 7, 2), 7);
        x.write(0, 9, 4);
        due.is("it would be unclear on both sheets", x.ifWritten(0, 0, 2), 7);
        x.set(OVER, 2);
        due.is("on one it would be clear", x.ifWritten(0, 0, 2), 7);
    }

    @Sentence(in = "Promise 19", says = "NO_SUCH if there is no such field;")
    static void p19NoSuchFieldIsTheFirstError(Due due) {
        due.refusedOutside("ifWritten(?, 5, 5)", 0, 9, Forms::used, (x, field) -> x.ifWritten(field, 5, 5), NO_SUCH);
        due.refusedOutside("ifWritten(?, -1, 10), without a stack", 0, 9, Forms::torn, (x, field) -> x.ifWritten(field, -1, 10), NO_SUCH);
    }

    @Sentence(in = "Promise 19", says = "BAD_VALUE if value or pressure is out of range;")
    static void p19AValueOrPressureOutOfRangeIsTheSecondError(Due due) {
        due.refusedOutside("ifWritten(4, ?, 5), without a stack", 0, 999, Forms::fullTorn, (x, value) -> x.ifWritten(4, value, 5), BAD_VALUE);
        due.refusedOutside("ifWritten(4, 5, ?), without a stack", 1, 9, Forms::fullTorn, (x, press) -> x.ifWritten(4, 5, press), BAD_VALUE);
        due.refusedOutside("ifWritten(4, ?, 5), full", 0, 999, Forms::full, (x, value) -> x.ifWritten(4, value, 5), BAD_VALUE);
        due.refusedOutside("ifWritten(4, 5, ?), full", 1, 9, Forms::full, (x, press) -> x.ifWritten(4, 5, press), BAD_VALUE);
    }

    @Sentence(in = "Promise 19", says = "NOT_POSSIBLE and TOO_MANY as for write();")
    static void p19AnEmptyStackAndAFullFieldAsForWrite(Due due) {
        due.refused("ifWritten(4, 5, 1), torn, of a field that was full", Forms::fullTorn, x -> x.ifWritten(4, 5, 1), NOT_POSSIBLE);
        due.refused("ifWritten(4, 5, 1), full", Forms::full, x -> x.ifWritten(4, 5, 1), TOO_MANY);
        due.refused("ifWritten(4, 5, 9), full", Forms::full, x -> x.ifWritten(4, 5, 9), TOO_MANY);
        CarbonSheets x = Forms.full();
        due.is("the field before", x.ifWritten(3, 5, 9), 5);
        due.is("the field behind", x.ifWritten(5, 5, 9), 5);
        x.tear(0);
        x.tear(0);
        due.is("below, with 7 marks", x.ifWritten(4, 5, 9), 5);
        x.write(4, 5, 9);
        due.is("below, with 8 marks", x.ifWritten(4, 5, 9), TOO_MANY);
    }

    @Sentence(in = "Promise 19", says = "NONE if it would have none, or be in conflict.")
    static void p19NoneIfItWouldHaveNoneOrBeInConflict(Due due) {
        CarbonSheets x = Forms.stackOf(0, 0);
        due.is("too faint", x.ifWritten(0, 5, 1), NONE);
        due.is("just not too faint", x.ifWritten(0, 5, 2), 5);
        x.write(0, 9, 9);
        due.is("it would be unclear, and no other sheet reads it", x.ifWritten(0, 5, 2), NONE);
        due.is("too faint, what is there is read", x.ifWritten(0, 5, 1), 9);
        x.amend(4, 0, 9, 8);
        due.is("8 votes against 8", x.ifWritten(0, 5, 8), NONE);
        due.is("9 votes against 8", x.ifWritten(0, 5, 9), 5);
        x.amend(3, 0, 5, 9);
        x.amend(2, 0, 1, 8);
        due.is("too faint, 9 + 8 votes against 9", x.ifWritten(0, 9, 1), 9);
        due.is("2 + 8 votes against 9", x.ifWritten(0, 9, 2), 9);
        due.is("unclear, 8 votes against 9", x.ifWritten(0, 1, 2), 5);
    }
}
