import java.util.List;
import java.util.function.ToIntFunction;

/** The boundary cases of what all promises share: conventions, settings, sheets and carbons, pressing. */
final class BoundariesOfTerms {
    private static final int NO_SUCH = CarbonSheets.NO_SUCH, BAD_VALUE = CarbonSheets.BAD_VALUE,
        TOO_MANY = CarbonSheets.TOO_MANY, NOT_POSSIBLE = CarbonSheets.NOT_POSSIBLE, NONE = CarbonSheets.NONE;

    /** Each method that can fail, refused by Forms.used(). */
    private static final List<ToIntFunction<CarbonSheets>> REFUSED = List.of(
        x -> x.set(0, 10), x -> x.thickness(5, 0), x -> x.thickness(0, 5), x -> x.carbon(5, 0), x -> x.carbon(1, 301),
        x -> x.carbon(0, 9), x -> x.write(10, 1, 1), x -> x.write(0, 1000, 1), x -> x.strike(10, 1), x -> x.strike(0, 10),
        x -> x.paint(5, 0), x -> x.paint(2, 0), x -> x.amend(0, 10, 1, 1), x -> x.amend(0, 0, 1, 10), x -> x.amend(1, 0, 1, 1),
        x -> x.tear(2), x -> x.ofSheet(5, 0), x -> x.ofSheet(0, 8), x -> x.reading(0, 10, 0), x -> x.reading(0, 0, 5),
        x -> x.ofMark(0, 0, 8, 0), x -> x.ofMark(0, 0, 0, 3), x -> x.together(10, 0), x -> x.together(0, 5), x -> x.count(10),
        x -> x.differ(0, 5), x -> x.enoughFor(5), x -> x.strikeFor(10), x -> x.lasts(10), x -> x.ifWritten(10, 1, 1),
        x -> x.ifWritten(0, 1, 10), x -> x.put(0), x -> x.put(' '), x -> x.save(2), x -> x.restore(2));

    private BoundariesOfTerms() { }

    @Sentence(in = "What it is", says = "An object is used for at most 512 calls after it has been made")
    static void the512thCallAnswersAsTheFirst(Due due) {
        CarbonSheets changed = new CarbonSheets();
        for (int call = 1; call <= 510; call++) {
            due.is("change " + call, changed.carbon(0, call % 301), call == 1 ? 60 : (call - 1) % 301);
        }
        due.is("the 511th call", changed.undo(), 5);
        due.is("the 512th call", changed.ofSheet(0, 1), 509 % 301);
        CarbonSheets asked = new CarbonSheets();
        for (int call = 1; call < 512; call++) {
            due.is("ifWritten() " + call, asked.ifWritten(9, call, 9), call);
        }
        due.is("the 512th call", asked.count(3), 0);
        CarbonSheets typed = new CarbonSheets();
        for (int call = 1; call < 512; call++) {
            due.is("put() or wipe() " + call, call % 2 == 1 ? typed.put(Forms.packed("w1=2!3;t")) : typed.wipe(), 8);
        }
        due.is("the 512th call", typed.fault(), NONE);
    }

    @Sentence(in = "Terms", says = "CONVENTIONS. A method that fails returns one of the error codes NO_SUCH (-1), BAD_VALUE (-2), "
        + "BAD_TEXT (-3), TOO_MANY (-4) and NOT_POSSIBLE (-5);")
    static void theErrorsAreMinus1To5(Due due) {
        due.is("strikeFor(10)", new CarbonSheets().strikeFor(10), -1);
        due.is("set(2, 1)", new CarbonSheets().set(2, 1), -2);
        due.is("carryOut() of an empty pad", new CarbonSheets().carryOut(), -3);
        due.is("write() to a full field", Forms.full().write(4, 1, 1), -4);
        due.is("undo() of nothing", new CarbonSheets().undo(), -5);
        for (ToIntFunction<CarbonSheets> call : REFUSED) {
            int answer = call.applyAsInt(Forms.used());
            due.is("call " + REFUSED.indexOf(call) + " of those refused: an error", answer <= -1 && answer >= -5 ? 1 : 0, 1);
        }
    }

    @Sentence(in = "Terms", says = "it names its errors in the order in which they are checked, and the first one that applies is returned.")
    static void theFirstErrorThatAppliesIsReturned(Due due) {
        CarbonSheets none = Forms.fullTorn();
        CarbonSheets full = Forms.full();
        due.is("write(): all four", none.write(10, 1000, 10), NO_SUCH);
        due.is("write(): all but the first", none.write(4, 1000, 10), BAD_VALUE);
        due.is("write(): all but the first two", none.write(4, 1, 1), NOT_POSSIBLE);
        due.is("write(): the last", full.write(4, 1, 1), TOO_MANY);
        due.is("ifWritten(): all four", none.ifWritten(10, 1000, 10), NO_SUCH);
        due.is("ifWritten(): all but the first", none.ifWritten(4, 1000, 10), BAD_VALUE);
        due.is("ifWritten(): all but the first two", none.ifWritten(4, 1, 1), NOT_POSSIBLE);
        due.is("ifWritten(): the last", full.ifWritten(4, 1, 1), TOO_MANY);
        due.is("amend(): all four", full.amend(0, 10, 1000, 10), NO_SUCH);
        due.is("amend(): all but the first", full.amend(0, 4, 1000, 10), BAD_VALUE);
        due.is("amend(): all but the first two", full.amend(0, 4, 1, 1), NOT_POSSIBLE);
        due.is("amend(): the last", none.amend(0, 4, 1, 1), TOO_MANY);
        due.is("strike(): all three", none.strike(10, 10), NO_SUCH);
        due.is("strike(): all but the first", none.strike(4, 10), BAD_VALUE);
        due.is("strike(): the last", none.strike(4, 1), NOT_POSSIBLE);
        due.is("carbon(): both that can be", none.carbon(5, 301), NO_SUCH);
        due.is("carbon(): all but the first", none.carbon(4, 301), BAD_VALUE);
        due.is("carbon(): the last", none.carbon(4, 300), NOT_POSSIBLE);
    }

    @Sentence(in = "Terms", says = "A call that returns an error changes nothing.")
    static void refusedCallsOneAfterTheOtherChangeNothing(Due due) {
        due.sameAfter("each method, refused", Forms::used, x -> {
            REFUSED.forEach(call -> call.applyAsInt(x));
            return 0;
        });
        due.sameAfter("each method that wants a stack, without one", Forms::torn,
            x -> x.write(0, 1, 1) + x.strike(0, 1) + x.tear(0) + x.tear(1) + x.carbon(2, 1) + x.lasts(1) + x.ifWritten(0, 1, 1));
    }

    @Sentence(in = "Terms", says = "NONE (-6) is not an error; it is returned only if no error applies.")
    static void noneIsReturnedOnlyIfNoErrorApplies(Due due) {
        CarbonSheets x = new CarbonSheets();
        due.is("NONE", NONE, -6);
        due.is("reading(0, 0, 1)", x.reading(0, 0, 1), NONE);
        due.is("reading(5, 0, 1)", x.reading(5, 0, 1), NO_SUCH);
        due.is("reading(0, 10, 2)", x.reading(0, 10, 2), NO_SUCH);
        due.is("together(0, 1)", x.together(0, 1), NONE);
        due.is("together(10, 1)", x.together(10, 1), NO_SUCH);
        due.is("ifWritten(0, 1, 1)", x.ifWritten(0, 1, 1), NONE);
        due.is("ifWritten(10, 1, 1)", x.ifWritten(10, 1, 1), NO_SUCH);
        due.is("ifWritten(0, 1000, 1)", x.ifWritten(0, 1000, 1), BAD_VALUE);
        CarbonSheets torn = Forms.apart();
        due.is("ifWritten() without a stack", torn.ifWritten(0, 1, 1), NOT_POSSIBLE);
        due.is("count(0) without a stack", torn.count(0), NONE);
        due.is("count(-1) without a stack", torn.count(-1), BAD_VALUE);
        due.is("enoughFor(0) without a stack", torn.enoughFor(0), NONE);
        due.is("enoughFor(5) without a stack", torn.enoughFor(5), NO_SUCH);
        due.is("strikeFor(0) without a stack", torn.strikeFor(0), NONE);
        due.is("strikeFor(10) without a stack", torn.strikeFor(10), NO_SUCH);
        CarbonSheets full = Forms.full();
        full.paint(0, 4);
        full.set(CarbonSheets.FAINT, 9);
        due.is("a full field that has no value", full.together(4, 1), NONE);
        due.is("ifWritten() there", full.ifWritten(4, 1, 1), TOO_MANY);
    }

    @Sentence(in = "Terms", says = "Everything is numbered from 0.")
    static void zeroIsTheFirstAndMinusOneIsNothing(Due due) {
        CarbonSheets x = Forms.full();
        int[] first = {x.ofSheet(0, 0), x.reading(0, 0, 0), x.ofMark(0, 4, 0, 0), x.together(0, 0), x.count(0), x.enoughFor(0),
            x.set(0, 2), x.save(0), x.restore(0), x.tear(0)};
        int[] want = {1, 0, 0, 0, 0, 2, 2, 31, 31, 0};
        int[] before = {x.ofSheet(-1, 0), x.reading(0, -1, 0), x.ofMark(0, 4, -1, 0), x.together(-1, 0), x.count(-1),
            x.enoughFor(-1), x.set(-1, 2), x.save(-1), x.restore(-1), x.tear(-1)};
        int[] error = {NO_SUCH, NO_SUCH, NO_SUCH, NO_SUCH, BAD_VALUE, NO_SUCH, BAD_VALUE, BAD_VALUE, BAD_VALUE, BAD_VALUE};
        for (int i = 0; i < first.length; i++) {
            due.is("the number 0, question " + i, first[i], want[i]);
            due.is("the number -1, question " + i, before[i], error[i]);
        }
    }

    @Sentence(in = "Terms", says = "Sets are bit masks.")
    static void setsAreBitMasks(Due due) {
        CarbonSheets x = Forms.stackOf(0, 3);
        x.write(0, 1, 9);
        x.write(9, 1, 9);
        due.is("the first field and the last one", x.ofSheet(0, 5), 0b1000000001);
        due.is("they differ from an empty sheet", x.differ(0, 4), 0b1000000001);
        due.is("all sheets but the last one", x.count(2), 0b01111);
        x.amend(4, 9, 1, 9);
        due.is("all sheets", x.together(9, 4), 0b11111);
    }

    @Sentence(in = "Settings", says = "(In parentheses: range; first value.) FAINT (1 to 9; 2).")
    static void faintIs1To9And2AtFirst(Due due) {
        CarbonSheets x = new CarbonSheets();
        due.is("its first value", x.count(8), 2);
        due.is("set(FAINT, 1)", x.set(CarbonSheets.FAINT, 1), 2);
        due.is("count(8)", x.count(8), 1);
        due.is("set(FAINT, 9)", x.set(CarbonSheets.FAINT, 9), 1);
        due.is("count(8)", x.count(8), 9);
        due.is("OVER is another one", x.count(9), 1);
        due.is("set(FAINT, 0)", x.set(CarbonSheets.FAINT, 0), BAD_VALUE);
        due.is("set(FAINT, 10)", x.set(CarbonSheets.FAINT, 10), BAD_VALUE);
        due.is("count(8)", x.count(8), 9);
    }

    @Sentence(in = "Settings", says = "OVER (0 to 5; 1).")
    static void overIs0To5And1AtFirst(Due due) {
        CarbonSheets x = new CarbonSheets();
        due.is("its first value", x.count(9), 1);
        due.is("set(OVER, 0)", x.set(CarbonSheets.OVER, 0), 1);
        due.is("count(9)", x.count(9), 0);
        due.is("set(OVER, 5)", x.set(CarbonSheets.OVER, 5), 0);
        due.is("count(9)", x.count(9), 5);
        due.is("FAINT is another one", x.count(8), 2);
        due.is("set(OVER, -1)", x.set(CarbonSheets.OVER, -1), BAD_VALUE);
        due.is("set(OVER, 6)", x.set(CarbonSheets.OVER, 6), BAD_VALUE);
        due.is("count(9)", x.count(9), 5);
    }

    @Sentence(in = "Sheets and carbons", says = "There are 5 sheets, 0 (the top one, at first) to 4 (the lowest one),")
    static void thereAre5Sheets(Due due) {
        CarbonSheets x = new CarbonSheets();
        due.is("the top one", x.count(0), 0);
        due.is("the lowest one", x.count(1), 4);
        due.is("to how many a press comes", x.write(0, 1, 9), 5);
        due.is("sheet 0 has it with all its strength", x.reading(0, 0, 2), 9);
        due.is("sheet 4 has it with the least", x.reading(4, 0, 2), 5);
        due.is("sheet -1", x.reading(-1, 0, 2), NO_SUCH);
        due.is("sheet 5", x.reading(5, 0, 2), NO_SUCH);
    }

    @Sentence(in = "Sheets and carbons", says = "each with a thickness (0 to 4; 1 at first),")
    static void aThicknessIs0To4And1AtFirst(Due due) {
        CarbonSheets x = new CarbonSheets();
        for (int sheet = 0; sheet < 5; sheet++) {
            due.is("the first one of sheet " + sheet, x.ofSheet(sheet, 0), 1);
            due.is("thickness(" + sheet + ", 0)", x.thickness(sheet, 0), 1);
            due.is("thickness(" + sheet + ", 4)", x.thickness(sheet, 4), 0);
            due.is("thickness(" + sheet + ", -1)", x.thickness(sheet, -1), BAD_VALUE);
            due.is("thickness(" + sheet + ", 5)", x.thickness(sheet, 5), BAD_VALUE);
            due.is("ofSheet(" + sheet + ", 0)", x.ofSheet(sheet, 0), 4);
        }
    }

    @Sentence(in = "Sheets and carbons", says = "and 10 fields on each, 0 to 9.")
    static void thereAre10FieldsOnEachSheet(Due due) {
        CarbonSheets x = new CarbonSheets();
        for (int field = 0; field < 10; field++) {
            due.is("write(" + field + ", .., 9)", x.write(field, 100 + field, 9), 5);
        }
        for (int sheet = 0; sheet < 5; sheet++) {
            for (int field = 0; field < 10; field++) {
                due.is("reading(" + sheet + ", " + field + ", 1)", x.reading(sheet, field, 1), 100 + field);
                due.is("reading(" + sheet + ", " + field + ", 3)", x.reading(sheet, field, 3), 1);
            }
            due.is("field -1 of sheet " + sheet, x.reading(sheet, -1, 1), NO_SUCH);
            due.is("field 10 of sheet " + sheet, x.reading(sheet, 10, 1), NO_SUCH);
        }
    }

    @Sentence(in = "Sheets and carbons", says = "At first all sheets are in the stack.")
    static void atFirstAllSheetsAreInTheStack(Due due) {
        CarbonSheets x = new CarbonSheets();
        due.is("the stack", x.count(2), 31);
        for (int sheet = 0; sheet < 5; sheet++) {
            due.is("sheet " + sheet + " is apart", x.ofSheet(sheet, 2), 0);
            due.is("tear(0)", x.tear(0), sheet);
            due.is("sheet " + sheet + " is apart then", x.ofSheet(sheet, 2), 1);
        }
        due.is("a sixth sheet", x.tear(0), NOT_POSSIBLE);
    }

    @Sentence(in = "Sheets and carbons", says = "Under each sheet is a carbon, with a number of uses that are left (0 to 300; 60 at first).")
    static void usesAre0To300And60AtFirst(Due due) {
        CarbonSheets x = new CarbonSheets();
        for (int sheet = 0; sheet < 5; sheet++) {
            due.is("the first ones under sheet " + sheet, x.ofSheet(sheet, 1), 60);
            due.is("carbon(" + sheet + ", 0)", x.carbon(sheet, 0), 60);
            due.is("carbon(" + sheet + ", 300)", x.carbon(sheet, 300), 0);
            due.is("carbon(" + sheet + ", -1)", x.carbon(sheet, -1), BAD_VALUE);
            due.is("carbon(" + sheet + ", 301)", x.carbon(sheet, 301), BAD_VALUE);
            due.is("ofSheet(" + sheet + ", 1)", x.ofSheet(sheet, 1), 300);
        }
    }

    @Sentence(in = "Sheets and carbons", says = "A sheet can be torn off the stack, from its top or from its bottom, and its carbon goes "
        + "with it; it is apart then for ever.")
    static void aTornSheetGoesWithItsCarbonForEver(Due due) {
        CarbonSheets x = new CarbonSheets();
        x.carbon(0, 7);
        x.carbon(3, 8);
        x.carbon(4, 9);
        due.is("tear(0)", x.tear(0), 0);
        due.is("tear(1)", x.tear(1), 4);
        due.is("to how many a press comes", x.write(0, 1, 9), 3);
        due.is("no other carbon came under sheet 3, and it is not used", x.ofSheet(3, 1), 8);
        due.is("the carbon of sheet 0", x.ofSheet(0, 1), 7);
        due.is("the carbon of sheet 4", x.ofSheet(4, 1), 9);
        due.is("no new one comes under sheet 0", x.carbon(0, 300), NOT_POSSIBLE);
        due.is("no new one comes under sheet 4", x.carbon(4, 300), NOT_POSSIBLE);
        for (int i = 0; i < 3; i++) {
            due.is("sheet 0 is apart", x.ofSheet(0, 2), 1);
            due.is("sheet 4 is apart", x.ofSheet(4, 2), 1);
            due.is("the next one that is torn", x.tear(0), 1 + i);
        }
        due.is("none comes back", x.count(2), 0);
    }

    @Sentence(in = "Sheets and carbons", says = "A sheet has, at each field, up to 8 marks, in the order in which they were made;")
    static void aFieldHasUpTo8MarksInTheirOrder(Due due) {
        CarbonSheets x = new CarbonSheets();
        for (int i = 0; i < 8; i++) {
            due.is("mark " + i, x.write(9, 900 - 100 * i, 9), 5);
        }
        due.is("a ninth one", x.write(9, 1, 9), TOO_MANY);
        for (int i = 0; i < 8; i++) {
            due.is("the value of mark " + i + " of sheet 0", x.ofMark(0, 9, i, 0), 900 - 100 * i);
            due.is("the value of mark " + i + " of sheet 4", x.ofMark(4, 9, i, 0), 900 - 100 * i);
        }
        due.is("mark 8", x.ofMark(0, 9, 8, 0), NO_SUCH);
        due.is("the marks there", x.reading(0, 9, 3), 8);
        due.is("the field before has room", x.write(8, 1, 9), 5);
    }

    @Sentence(in = "Sheets and carbons", says = "a mark has a value (0 to 999), a strength (1 to 9), and is struck or not (not, when it is made).")
    static void aMarkHasAValueAndAStrengthAndIsNotStruckAtFirst(Due due) {
        CarbonSheets x = new CarbonSheets();
        x.write(0, 0, 1);
        x.write(0, 999, 9);
        x.strike(0, 1);
        x.write(0, 0, 9);
        x.tear(1);
        x.amend(4, 0, 999, 1);
        markIs(due, x, 0, 0, 0, 1, 1);
        markIs(due, x, 0, 1, 999, 9, 0);
        markIs(due, x, 0, 2, 0, 9, 0);
        markIs(due, x, 4, 0, 999, 5, 0);
        markIs(due, x, 4, 2, 999, 1, 0);
    }

    private static void markIs(Due due, CarbonSheets x, int sheet, int mark, int... want) {
        for (int what = 0; what < 3; what++) {
            due.is("ofMark(" + sheet + ", 0, " + mark + ", " + what + ")", x.ofMark(sheet, 0, mark, what), want[what]);
        }
    }

    @Sentence(in = "Pressing", says = "What is pressed on the stack with a pressure p comes to the top sheet of the stack with the strength p;")
    static void theTopSheetGetsTheWholePressure(Due due) {
        for (int top = 0; top < 5; top++) {
            CarbonSheets x = Forms.stackOf(top, 4);
            x.carbon(top, 0);
            for (int pressure : new int[] {1, 9}) {
                due.is("how many sheets above an empty carbon", x.write(pressure, 5, pressure), 1);
                due.is("the strength on sheet " + top, x.ofMark(top, pressure, 0, 1), pressure);
            }
        }
    }

    @Sentence(in = "Pressing", says = "to each sheet below, in the stack, it comes with the strength that it had on the sheet above it, less "
        + "the thickness of that sheet, if this is above 0 and the carbon of that sheet has a use left;")
    static void itComesBelowIfTheStrengthIsAbove0AndAUseIsLeft(Due due) {
        for (int pressure = 1; pressure <= 9; pressure++) {
            for (int thickness = 0; thickness <= 4; thickness++) {
                for (int uses = 0; uses <= 1; uses++) {
                    CarbonSheets x = Forms.stackOf(2, 3);
                    x.thickness(2, thickness);
                    x.carbon(2, uses);
                    boolean comes = pressure - thickness > 0 && uses > 0;
                    String press = "pressure " + pressure + ", thickness " + thickness + ", uses " + uses;
                    due.is(press, x.write(0, 5, pressure), comes ? 2 : 1);
                    due.is(press + ": the marks below", x.reading(3, 0, 3), comes ? 1 : 0);
                    due.is(press + ": the strength there", x.ofMark(3, 0, 0, 1), comes ? pressure - thickness : NO_SUCH);
                    due.is(press + ": the uses then", x.ofSheet(2, 1), comes ? 0 : uses);
                }
            }
        }
    }

    @Sentence(in = "Pressing", says = "this use is used up then.")
    static void usesAreCountedDownTo0AndNoFurther(Due due) {
        CarbonSheets x = new CarbonSheets();
        x.carbon(0, 2);
        due.is("two are left", x.write(0, 1, 9), 5);
        due.is("one is left", x.ofSheet(0, 1), 1);
        due.is("a stroke uses one up, too", x.strike(1, 9), 0);
        due.is("none is left", x.ofSheet(0, 1), 0);
        due.is("it comes to the top one alone", x.write(0, 1, 9), 1);
        due.is("still none is left", x.ofSheet(0, 1), 0);
        due.is("nor is one used below", x.ofSheet(1, 1), 58);
        CarbonSheets faint = new CarbonSheets();
        due.is("strength 1 less 1 is not above 0", faint.write(0, 1, 1), 1);
        due.is("so no use is used up", faint.ofSheet(0, 1), 60);
        due.is("strength 2 less 1 is", faint.write(0, 1, 2), 2);
        due.is("so one is used up", faint.ofSheet(0, 1), 59);
        due.is("and none of the next carbon", faint.ofSheet(1, 1), 60);
    }

    @Sentence(in = "Pressing", says = "It comes no deeper than to the first sheet to which it does not come so.")
    static void itComesNoDeeper(Due due) {
        for (int stop = 0; stop < 4; stop++) {
            CarbonSheets worn = new CarbonSheets();
            CarbonSheets thick = new CarbonSheets();
            worn.carbon(stop, 0);
            for (int sheet = 0; sheet < 5; sheet++) {
                worn.thickness(sheet, 0);
                thick.thickness(sheet, sheet == stop ? 4 : 0);
            }
            due.is("carbon " + stop + " has no use left", worn.write(0, 5, 9), stop + 1);
            due.is("sheet " + stop + " is as thick as the strength", thick.write(0, 5, 4), stop + 1);
            for (int sheet = 0; sheet < 5; sheet++) {
                int uses = sheet < stop ? 59 : 60;
                due.is("the uses under sheet " + sheet, thick.ofSheet(sheet, 1), uses);
                due.is("the uses under sheet " + sheet + ", worn", worn.ofSheet(sheet, 1), sheet == stop ? 0 : uses);
            }
            due.is("it is one stronger than the sheet is thick", thick.write(1, 5, 5), 5);
        }
    }

    @Sentence(in = "Pressing", says = "(The carbon of the lowest sheet of the stack is not used.)")
    static void theCarbonOfTheLowestSheetIsNotUsed(Due due) {
        Forms.eachStack((top, low) -> {
            CarbonSheets x = Forms.stackOf(top, low);
            x.write(0, 1, 9);
            x.strike(0, 9);
            for (int sheet = 0; sheet < 5; sheet++) {
                boolean isUsed = sheet >= top && sheet < low;
                due.is("stack " + top + " to " + low + ": ofSheet(" + sheet + ", 1)", x.ofSheet(sheet, 1), isUsed ? 58 : 60);
            }
        });
        CarbonSheets worn = new CarbonSheets();
        worn.carbon(4, 0);
        due.is("it is not needed, either", worn.write(0, 1, 9), 5);
    }

    @Sentence(in = "Pressing", says = "To write a value at a field means to press it: each sheet to which it comes gets a mark there, of this "
        + "value and of the strength with which it comes.")
    static void eachSheetGetsAMarkOfTheStrengthThatComes(Due due) {
        CarbonSheets x = new CarbonSheets();
        int[] thickness = {0, 4, 1, 3};
        for (int sheet = 0; sheet < 4; sheet++) {
            x.thickness(sheet, thickness[sheet]);
        }
        due.is("write(3, 999, 9)", x.write(3, 999, 9), 5);
        due.is("write(3, 0, 8)", x.write(3, 0, 8), 4);
        int[] strengths = {9, 9, 5, 4, 1};
        for (int sheet = 0; sheet < 5; sheet++) {
            due.is("the strength on sheet " + sheet, x.ofMark(sheet, 3, 0, 1), strengths[sheet]);
            due.is("the value on sheet " + sheet, x.ofMark(sheet, 3, 0, 0), 999);
            due.is("the marks at another field of sheet " + sheet, x.reading(sheet, 2, 3) + x.reading(sheet, 4, 3), 0);
        }
        due.is("the last strength above 0", x.ofMark(3, 3, 1, 1), 3);
        due.is("strength 3 less 3 makes no mark", x.ofMark(4, 3, 1, 1), NO_SUCH);
    }

    @Sentence(in = "Pressing", says = "To strike a field means to press a stroke: on each sheet to which it comes, all marks at this field whose "
        + "strength is at most the strength with which it comes are struck.")
    static void marksAreStruckUpToTheStrengthThatComes(Due due) {
        for (int pressure = 1; pressure <= 9; pressure++) {
            CarbonSheets x = Forms.stackOf(1, 1);
            for (int strength = 2; strength <= 9; strength++) {
                x.write(6, 5, strength);
            }
            due.is("strike(6, " + pressure + ")", x.strike(6, pressure), pressure - 1);
            for (int mark = 0; mark < 8; mark++) {
                int isStruck = mark + 2 <= pressure ? 1 : 0;
                due.is("pressure " + pressure + ", a mark of " + (mark + 2), x.ofMark(1, 6, mark, 2), isStruck);
            }
        }
        CarbonSheets x = new CarbonSheets();
        x.write(0, 5, 5);
        x.thickness(0, 2);
        due.is("it comes weaker than the marks below the top one", x.strike(0, 5), 1);
        due.is("with 6 it comes as strong as they are", x.strike(0, 6), 4);
        x.write(1, 5, 9);
        x.carbon(1, 0);
        due.is("it does not come below an empty carbon", x.strike(1, 9), 2);
    }

    @Sentence(in = "Pressing", says = "A sheet that is the top one of the stack, or is apart, can be painted at a field: all its marks there are struck.")
    static void theTopSheetAndThoseApartCanBePainted(Due due) {
        Forms.eachStack((top, low) -> {
            CarbonSheets x = Forms.stackOf(top, low);
            x.write(0, 5, 9);
            x.write(0, 5, 1);
            for (int sheet = 0; sheet < 5; sheet++) {
                boolean isBelow = sheet > top && sheet <= low;
                int want = isBelow ? NOT_POSSIBLE : sheet == top ? 2 : 0;
                due.is("stack " + top + " to " + low + ": paint(" + sheet + ", 0)", x.paint(sheet, 0), want);
            }
            due.is("the marks of the top one that are struck", x.ofSheet(top, 4), 2);
        });
        due.is("all 8 marks of a full field", Forms.fullApart().paint(0, 4), 8);
    }

    @Sentence(in = "Pressing", says = "A sheet that is apart can be amended at a field: it alone gets a mark there, whose strength is the pressure.")
    static void aSheetApartCanBeAmendedAlone(Due due) {
        Forms.eachStack((top, low) -> {
            CarbonSheets x = Forms.stackOf(top, low);
            int all = 0;
            for (int sheet = 0; sheet < 5; sheet++) {
                boolean isApart = sheet < top || sheet > low;
                int pressure = 1 + 2 * sheet;
                String call = "stack " + top + " to " + low + ": amend(" + sheet + ", 9, 999, " + pressure + ")";
                due.is(call, x.amend(sheet, 9, 999, pressure), isApart ? 1 : NOT_POSSIBLE);
                due.is(call + ": the strength", x.ofMark(sheet, 9, 0, 1), isApart ? pressure : NO_SUCH);
                all += isApart ? 1 : 0;
                due.is(call + ": all marks", x.count(3), all);
            }
        });
    }

    @Sentence(in = "Texts", says = "The constants: `NO_SUCH = -1, BAD_VALUE = -2, BAD_TEXT = -3, TOO_MANY = -4, NOT_POSSIBLE = -5, NONE = -6`: Error "
        + "codes, and NONE: there is none. `FAINT = 0, OVER = 1`: Settings. `EMPTY = 0, CLEAR = 1, UNCLEAR = 2`: What a sheet reads.")
    static void theConstantsAreTheNumbersThatTheCallsKnow(Due due) {
        int[] errors = {CarbonSheets.NO_SUCH, CarbonSheets.BAD_VALUE, CarbonSheets.BAD_TEXT, CarbonSheets.TOO_MANY, CarbonSheets.NOT_POSSIBLE,
            CarbonSheets.NONE};
        for (int i = 0; i < errors.length; i++) {
            due.is("error " + i, errors[i], -1 - i);
        }
        int[] settings = {CarbonSheets.FAINT, CarbonSheets.OVER};
        for (int i = 0; i < settings.length; i++) {
            due.is("setting " + i, settings[i], i);
        }
        int[] kinds = {CarbonSheets.EMPTY, CarbonSheets.CLEAR, CarbonSheets.UNCLEAR};
        for (int i = 0; i < kinds.length; i++) {
            due.is("kind " + i, kinds[i], i);
        }
    }
}
