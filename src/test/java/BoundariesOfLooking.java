/** The boundary cases of promises 10 to 14. */
final class BoundariesOfLooking {
    private static final int NO_SUCH = CarbonSheets.NO_SUCH, BAD_VALUE = CarbonSheets.BAD_VALUE, NONE = CarbonSheets.NONE;
    private static final int ALL_FIELDS = 1023;

    private BoundariesOfLooking() { }

    @Sentence(in = "Promise 10", says = "Returns a number about a sheet. - `what`: 0 its thickness,")
    static void p10What0IsItsThickness0To4(Due due) {
        CarbonSheets x = new CarbonSheets();
        for (int thickness : new int[] {1, 0, 4}) {
            x.thickness(3, thickness);
            due.is("of sheet 3", x.ofSheet(3, 0), thickness);
            due.is("of sheet 2", x.ofSheet(2, 0), 1);
        }
        due.is("of a sheet that is apart", Forms.apart().ofSheet(4, 0), 1);
    }

    @Sentence(in = "Promise 10", says = "1 the uses that are left of its carbon,")
    static void p10What1IsTheUsesLeft0To300(Due due) {
        CarbonSheets x = new CarbonSheets();
        for (int uses : new int[] {300, 0, 1}) {
            x.carbon(3, uses);
            due.is("of sheet 3", x.ofSheet(3, 1), uses);
        }
        x.write(0, 1, 9);
        due.is("the last use is used up", x.ofSheet(3, 1), 0);
        due.is("the lowest one's", x.ofSheet(4, 1), 60);
        x.tear(0);
        due.is("of a sheet that is apart", x.ofSheet(0, 1), 59);
    }

    @Sentence(in = "Promise 10", says = "2 whether it is apart (1 or 0),")
    static void p10What2IsWhetherItIsApart(Due due) {
        Forms.eachStack((top, low) -> {
            CarbonSheets x = Forms.stackOf(top, low);
            for (int sheet = 0; sheet < 5; sheet++) {
                due.is("stack " + top + " to " + low + ", sheet " + sheet, x.ofSheet(sheet, 2), sheet < top || sheet > low ? 1 : 0);
            }
        });
        CarbonSheets x = Forms.apart();
        for (int sheet = 0; sheet < 5; sheet++) {
            due.is("without a stack, sheet " + sheet, x.ofSheet(sheet, 2), 1);
        }
    }

    @Sentence(in = "Promise 10", says = "3 its marks,")
    static void p10What3IsItsMarks0To80(Due due) {
        due.is("none", new CarbonSheets().ofSheet(0, 3), 0);
        CarbonSheets all = Forms.withAllMarks();
        due.is("all, on the top sheet", all.ofSheet(0, 3), 80);
        due.is("all, on the lowest sheet", all.ofSheet(4, 3), 80);
        all.strike(0, 9);
        due.is("struck ones, too", all.ofSheet(4, 3), 80);
        due.is("faint ones, too", Forms.full().ofSheet(0, 3), 8);
    }

    @Sentence(in = "Promise 10", says = "4 those that are struck,")
    static void p10What4IsTheStruckOnes0To80(Due due) {
        CarbonSheets all = Forms.withAllMarks();
        due.is("none", all.ofSheet(0, 4), 0);
        for (int field = 0; field < 10; field++) {
            all.paint(0, field);
            due.is("up to field " + field, all.ofSheet(0, 4), 8 * (field + 1));
        }
        due.is("on another sheet", all.ofSheet(1, 4), 0);
    }

    @Sentence(in = "Promise 10", says = "5 the set of the fields that are CLEAR,")
    static void p10What5IsTheClearFieldsFromNoneToAll(Due due) {
        CarbonSheets x = new CarbonSheets();
        due.is("none", x.ofSheet(0, 5), 0);
        for (int field = 0; field < 10; field++) {
            x.write(field, 5, 2);
            due.is("up to field " + field, x.ofSheet(0, 5), (2 << field) - 1);
        }
        due.is("those too faint are not", x.ofSheet(1, 5), 0);
        x.paint(0, 0);
        due.is("nor those that are struck", x.ofSheet(0, 5), ALL_FIELDS - 1);
        x.write(9, 6, 9);
        x.write(9, 5, 2);
        due.is("nor those that are unclear", x.ofSheet(0, 5), ALL_FIELDS - 1 - 512);
    }

    @Sentence(in = "Promise 10", says = "6 the set of those that are UNCLEAR,")
    static void p10What6IsTheUnclearFieldsFromNoneToAll(Due due) {
        CarbonSheets x = new CarbonSheets();
        due.is("none", x.ofSheet(0, 6), 0);
        for (int field = 0; field < 10; field++) {
            x.write(field, 6, 9);
            x.write(field, 5, 2);
            due.is("up to field " + field, x.ofSheet(0, 6), (2 << field) - 1);
        }
        due.is("none below", x.ofSheet(1, 6), 0);
        x.paint(0, 0);
        due.is("those that are struck are not", x.ofSheet(0, 6), ALL_FIELDS - 1);
        x.write(9, 6, 9);
        due.is("nor those that are clear", x.ofSheet(0, 6), ALL_FIELDS - 1 - 512);
    }

    @Sentence(in = "Promise 10", says = "7 the set of those that were amended apart")
    static void p10What7IsTheAmendedFieldsFromNoneToAll(Due due) {
        CarbonSheets x = Forms.stackOf(1, 4);
        due.is("none", x.ofSheet(0, 7), 0);
        for (int field = 0; field < 10; field++) {
            due.is("field " + field, field % 2 == 0 ? x.paint(0, field) : x.amend(0, field, 1, 1), field % 2);
            due.is("up to field " + field, x.ofSheet(0, 7), (2 << field) - 1);
        }
        due.is("on another sheet", x.ofSheet(1, 7), 0);
    }

    @Sentence(in = "Promise 10", says = "Returns the number; NO_SUCH if there is no such sheet;")
    static void p10NoSuchSheetIsTheFirstError(Due due) {
        due.refusedOutside("ofSheet(?, 0)", 0, 4, Forms::used, (x, sheet) -> x.ofSheet(sheet, 0), NO_SUCH);
        due.refusedOutside("ofSheet(?, 8)", 0, 4, Forms::used, (x, sheet) -> x.ofSheet(sheet, 8), NO_SUCH);
    }

    @Sentence(in = "Promise 10", says = "BAD_VALUE if what is out of range.")
    static void p10AWhatOutOfRangeIsTheLastError(Due due) {
        due.refusedOutside("ofSheet(0, ?)", 0, 7, Forms::used, (x, what) -> x.ofSheet(0, what), BAD_VALUE);
        due.refusedOutside("ofSheet(4, ?)", 0, 7, Forms::torn, (x, what) -> x.ofSheet(4, what), BAD_VALUE);
    }

    @Sentence(in = "Promise 11", says = "Returns a number about a field of a sheet. - `what`: 0 EMPTY to UNCLEAR,")
    static void p11What0IsEmptyToUnclear(Due due) {
        CarbonSheets x = new CarbonSheets();
        due.is("no mark", x.reading(4, 9, 0), 0);
        x.write(9, 1, 9);
        due.is("one mark", x.reading(4, 9, 0), 1);
        x.write(9, 2, 7);
        due.is("one that is weaker by 2", x.reading(4, 9, 0), 2);
        due.is("at the first field", x.reading(4, 0, 0), 0);
    }

    @Sentence(in = "Promise 11", says = "1 the value of the last readable mark (NONE),")
    static void p11What1IsTheLastReadableValueOrNone(Due due) {
        CarbonSheets x = new CarbonSheets();
        due.is("no mark", x.reading(0, 9, 1), NONE);
        x.write(9, 999, 1);
        due.is("a faint one", x.reading(0, 9, 1), NONE);
        x.write(9, 999, 9);
        due.is("the greatest value", x.reading(0, 9, 1), 999);
        x.write(9, 0, 2);
        due.is("the least value, of an unclear field", x.reading(0, 9, 1), 0);
        x.paint(0, 9);
        due.is("all struck", x.reading(0, 9, 1), NONE);
        due.is("on the sheet below", x.reading(1, 9, 1), 999);
    }

    @Sentence(in = "Promise 11", says = "2 its strength (NONE),")
    static void p11What2IsItsStrengthOrNone(Due due) {
        CarbonSheets x = new CarbonSheets();
        due.is("no mark", x.reading(0, 9, 2), NONE);
        x.write(9, 5, 1);
        due.is("a faint one", x.reading(0, 9, 2), NONE);
        x.set(CarbonSheets.FAINT, 1);
        due.is("the least strength", x.reading(0, 9, 2), 1);
        x.write(9, 5, 9);
        due.is("the greatest strength", x.reading(0, 9, 2), 9);
        x.set(CarbonSheets.FAINT, 9);
        due.is("as strong as FAINT can be", x.reading(0, 9, 2), 9);
        due.is("on the sheet below", x.reading(1, 9, 2), NONE);
        x.paint(0, 9);
        due.is("all struck", x.reading(0, 9, 2), NONE);
    }

    @Sentence(in = "Promise 11", says = "3 the marks there,")
    static void p11What3IsTheMarks0To8(Due due) {
        CarbonSheets x = new CarbonSheets();
        for (int marks = 0; marks <= 8; marks++) {
            due.is("on sheet 0", x.reading(0, 5, 3), marks);
            due.is("on sheet 1", x.reading(1, 5, 3), 0);
            due.is("at the field behind", x.reading(0, 6, 3), 0);
            x.write(5, marks, 1);
            x.paint(0, 5);
        }
        due.is("a ninth one is none", x.reading(0, 5, 3), 8);
    }

    @Sentence(in = "Promise 11", says = "4 how many of them are readable")
    static void p11What4IsTheReadableMarks0To8(Due due) {
        CarbonSheets x = new CarbonSheets();
        for (int marks = 0; marks <= 8; marks++) {
            due.is("on sheet 0", x.reading(0, 5, 4), marks);
            due.is("on sheet 1, too faint", x.reading(1, 5, 4), 0);
            x.write(5, marks, 2);
        }
        x.set(CarbonSheets.FAINT, 1);
        due.is("on sheet 1", x.reading(1, 5, 4), 8);
        x.paint(0, 5);
        due.is("all struck", x.reading(0, 5, 4), 0);
        CarbonSheets all = Forms.withAllMarks();
        for (int field = 0; field < 10; field++) {
            due.is("a full field has no mark of the one behind it: " + field, all.reading(4, field, 4), 8);
            all.paint(0, field);
            due.is("nor when it is struck: " + field, all.reading(0, field, 4), 0);
            due.is("nor has it a value then: " + field, all.reading(0, field, 1), NONE);
        }
    }

    @Sentence(in = "Promise 11", says = "Returns the number; NO_SUCH if there is no such sheet or field;")
    static void p11NoSuchSheetOrFieldIsTheFirstError(Due due) {
        due.refusedOutside("reading(?, 0, 0)", 0, 4, Forms::used, (x, sheet) -> x.reading(sheet, 0, 0), NO_SUCH);
        due.refusedOutside("reading(0, ?, 0)", 0, 9, Forms::used, (x, field) -> x.reading(0, field, 0), NO_SUCH);
        due.refusedOutside("reading(?, 0, 5)", 0, 4, Forms::used, (x, sheet) -> x.reading(sheet, 0, 5), NO_SUCH);
        due.refusedOutside("reading(0, ?, -1)", 0, 9, Forms::used, (x, field) -> x.reading(0, field, -1), NO_SUCH);
    }

    @Sentence(in = "Promise 11", says = "BAD_VALUE if what is out of range.")
    static void p11AWhatOutOfRangeIsTheLastError(Due due) {
        due.refusedOutside("reading(0, 0, ?)", 0, 4, Forms::used, (x, what) -> x.reading(0, 0, what), BAD_VALUE);
        due.refusedOutside("reading(4, 9, ?), where no mark is", 0, 4, Forms::used, (x, what) -> x.reading(4, 9, what), BAD_VALUE);
    }

    @Sentence(in = "Promise 12", says = "Returns a number about a mark. - `mark`: 0 for the first one that was made there")
    static void p12TheFirstMarkIs0AndTheEighthIs7(Due due) {
        CarbonSheets x = Forms.withAllMarks();
        for (int sheet = 0; sheet < 5; sheet += 4) {
            for (int field = 0; field < 10; field++) {
                due.is("the first one of field " + field, x.ofMark(sheet, field, 0, 0), 8 * field);
                due.is("the last one of field " + field, x.ofMark(sheet, field, 7, 0), 8 * field + 7);
            }
        }
        x.paint(0, 9);
        due.is("struck ones keep their places", x.ofMark(0, 9, 7, 0), 79);
    }

    @Sentence(in = "Promise 12", says = "`what`: 0 its value,")
    static void p12What0IsItsValue0To999(Due due) {
        CarbonSheets x = new CarbonSheets();
        int[] values = {0, 1, 255, 256, 511, 512, 998, 999};
        for (int value : values) {
            x.write(9, value, 9);
        }
        for (int mark = 0; mark < values.length; mark++) {
            due.is("mark " + mark, x.ofMark(0, 9, mark, 0), values[mark]);
        }
    }

    @Sentence(in = "Promise 12", says = "1 its strength,")
    static void p12What1IsItsStrength1To9(Due due) {
        CarbonSheets x = Forms.apart();
        for (int strength = 1; strength <= 9; strength++) {
            int sheet = strength % 2;
            x.amend(sheet, 0, 999, strength);
            due.is("strength " + strength, x.ofMark(sheet, 0, (strength - 1) / 2, 1), strength);
        }
    }

    @Sentence(in = "Promise 12", says = "2 whether it is struck (1 or 0)")
    static void p12What2IsWhetherItIsStruck(Due due) {
        CarbonSheets x = new CarbonSheets();
        x.write(0, 999, 5);
        x.write(0, 0, 6);
        due.is("not, when it is made", x.ofMark(0, 0, 0, 2), 0);
        x.strike(0, 5);
        due.is("as strong as the stroke", x.ofMark(0, 0, 0, 2), 1);
        due.is("stronger by 1", x.ofMark(0, 0, 1, 2), 0);
        due.is("its value has stayed", x.ofMark(0, 0, 0, 0), 999);
        due.is("its strength has stayed", x.ofMark(0, 0, 0, 1), 5);
        x.paint(0, 0);
        due.is("painted over", x.ofMark(0, 0, 1, 2), 1);
        x.strike(0, 9);
        due.is("struck twice", x.ofMark(0, 0, 0, 2), 1);
    }

    @Sentence(in = "Promise 12", says = "Returns the number; NO_SUCH if there is no such sheet, field or mark;")
    static void p12NoSuchSheetFieldOrMarkIsTheFirstError(Due due) {
        due.refusedOutside("ofMark(?, 0, 0, 0)", 0, 4, Forms::used, (x, sheet) -> x.ofMark(sheet, 0, 0, 0), NO_SUCH);
        due.refusedOutside("ofMark(0, ?, 0, 0)", 0, 9, Forms::used, (x, field) -> x.ofMark(0, field, 0, 0), NO_SUCH);
        due.refusedOutside("ofMark(0, 0, ?, 0), 2 marks", 0, 1, Forms::used, (x, mark) -> x.ofMark(0, 0, mark, 0), NO_SUCH);
        due.refusedOutside("ofMark(0, 4, ?, 0), 8 marks", 0, 7, Forms::full, (x, mark) -> x.ofMark(0, 4, mark, 0), NO_SUCH);
        due.refusedOutside("ofMark(0, 0, ?, 3), 2 marks", 0, 1, Forms::used, (x, mark) -> x.ofMark(0, 0, mark, 3), NO_SUCH);
        due.refused("ofMark(0, 3, 0, 0), no mark", Forms::full, x -> x.ofMark(0, 3, 0, 0), NO_SUCH);
        due.refused("ofMark(4, 4, 7, -1), 7 marks", Forms::full, x -> x.ofMark(4, 4, 7, -1), NO_SUCH);
        due.is("ofMark(4, 4, 6, 0), 7 marks", Forms.full().ofMark(4, 4, 6, 0), 6);
        CarbonSheets x = Forms.full();
        x.undo();
        due.is("a mark that was undone", x.ofMark(0, 4, 7, 0), NO_SUCH);
    }

    @Sentence(in = "Promise 12", says = "BAD_VALUE if what is out of range.")
    static void p12AWhatOutOfRangeIsTheLastError(Due due) {
        due.refusedOutside("ofMark(0, 0, 0, ?)", 0, 2, Forms::used, (x, what) -> x.ofMark(0, 0, 0, what), BAD_VALUE);
        due.refusedOutside("ofMark(0, 4, 7, ?)", 0, 2, Forms::full, (x, what) -> x.ofMark(0, 4, 7, what), BAD_VALUE);
    }

    @Sentence(in = "Promise 13", says = "Returns a number about a field, put together from all sheets. - `what`: 0 how many values have the most "
        + "votes (0 if there is no reading; 2 or more: a conflict),")
    static void p13What0IsHowManyValuesLead0To5(Due due) {
        CarbonSheets x = Forms.apart();
        for (int sheet = 0; sheet < 5; sheet++) {
            due.is("with " + sheet + " sheets", x.together(9, 0), sheet);
            x.amend(sheet, 9, 100 * sheet, 9);
        }
        due.is("with 5 sheets", x.together(9, 0), 5);
        x.amend(0, 9, 0, 8);
        due.is("one has fewer votes by 1", x.together(9, 0), 4);
        x.amend(1, 9, 200, 8);
        due.is("two read the same", x.together(9, 0), 1);
    }

    @Sentence(in = "Promise 13", says = "1 the lowest one of these values (NONE),")
    static void p13What1IsTheLowestOfThem(Due due) {
        CarbonSheets x = Forms.apart();
        due.is("no reading", x.together(0, 1), NONE);
        int[] values = {999, 500, 501, 0, 1};
        int[] lowest = {999, 500, 500, 0, 0};
        for (int sheet = 0; sheet < 5; sheet++) {
            x.amend(sheet, 0, values[sheet], 5);
            due.is("up to sheet " + sheet, x.together(0, 1), lowest[sheet]);
        }
        x.amend(3, 0, 0, 4);
        due.is("the lowest value has fewer votes", x.together(0, 1), 1);
    }

    @Sentence(in = "Promise 13", says = "2 the highest one (NONE),")
    static void p13What2IsTheHighestOfThem(Due due) {
        CarbonSheets x = Forms.apart();
        due.is("no reading", x.together(0, 2), NONE);
        int[] values = {0, 500, 499, 999, 998};
        int[] highest = {0, 500, 500, 999, 999};
        for (int sheet = 0; sheet < 5; sheet++) {
            x.amend(sheet, 0, values[sheet], 5);
            due.is("up to sheet " + sheet, x.together(0, 2), highest[sheet]);
        }
        x.amend(3, 0, 999, 4);
        due.is("the highest value has fewer votes", x.together(0, 2), 998);
    }

    @Sentence(in = "Promise 13", says = "3 the most votes (0),")
    static void p13What3IsTheMostVotes0To45(Due due) {
        CarbonSheets x = Forms.apart();
        due.is("no reading", x.together(0, 3), 0);
        x.set(CarbonSheets.FAINT, 1);
        x.amend(4, 0, 0, 1);
        due.is("the fewest of a reading", x.together(0, 3), 1);
        for (int sheet = 0; sheet < 5; sheet++) {
            x.amend(sheet, 0, 0, 9);
        }
        due.is("the most that can be", x.together(0, 3), 45);
        x.amend(0, 0, 1, 9);
        due.is("one reads another value", x.together(0, 3), 36);
    }

    @Sentence(in = "Promise 13", says = "4 the sheets that are CLEAR there, as a set")
    static void p13What4IsTheClearSheetsFromNoneToAll(Due due) {
        CarbonSheets x = Forms.apart();
        due.is("none", x.together(9, 4), 0);
        for (int sheet = 4; sheet >= 0; sheet--) {
            x.amend(sheet, 9, sheet, 2);
            due.is("down to sheet " + sheet, x.together(9, 4), 31 & -1 << sheet);
        }
        x.paint(4, 9);
        due.is("not those that are empty", x.together(9, 4), 15);
        x.amend(0, 9, 9, 9);
        x.amend(0, 9, 8, 7);
        due.is("nor those that are unclear", x.together(9, 4), 14);
        due.is("of another field", x.together(8, 4), 0);
    }

    @Sentence(in = "Promise 13", says = "Returns the number; NO_SUCH if there is no such field;")
    static void p13NoSuchFieldIsTheFirstError(Due due) {
        due.refusedOutside("together(?, 0)", 0, 9, Forms::used, (x, field) -> x.together(field, 0), NO_SUCH);
        due.refusedOutside("together(?, 5)", 0, 9, Forms::used, (x, field) -> x.together(field, 5), NO_SUCH);
    }

    @Sentence(in = "Promise 13", says = "BAD_VALUE if what is out of range.")
    static void p13AWhatOutOfRangeIsTheLastError(Due due) {
        due.refusedOutside("together(0, ?)", 0, 4, Forms::used, (x, what) -> x.together(0, what), BAD_VALUE);
        due.refusedOutside("together(9, ?), without a reading", 0, 4, Forms::used, (x, what) -> x.together(9, what), BAD_VALUE);
    }

    @Sentence(in = "Promise 14", says = "Returns a number. - `what`: 0 the top sheet of the stack (NONE), 1 the lowest one "
        + "(NONE), 2 the sheets of the stack, as a set,")
    static void p14What0To2AreTheEndsOfTheStackAndItself(Due due) {
        Forms.eachStack((top, low) -> {
            CarbonSheets x = Forms.stackOf(top, low);
            String stack = "stack " + top + " to " + low;
            due.is(stack + ": count(0)", x.count(0), top);
            due.is(stack + ": count(1)", x.count(1), low);
            due.is(stack + ": count(2)", x.count(2), (2 << low) - (1 << top));
        });
        for (int top = 0; top < 5; top++) {
            CarbonSheets x = Forms.stackOf(top, top);
            x.tear(top % 2);
            due.is("no stack, sheet " + top + " was torn last: count(0)", x.count(0), NONE);
            due.is("no stack, sheet " + top + " was torn last: count(1)", x.count(1), NONE);
            due.is("no stack, sheet " + top + " was torn last: count(2)", x.count(2), 0);
        }
    }

    @Sentence(in = "Promise 14", says = "3 all marks,")
    static void p14What3IsAllMarks0To400(Due due) {
        due.is("none", new CarbonSheets().count(3), 0);
        CarbonSheets all = Forms.withAllMarks();
        due.is("all that can be", all.count(3), 400);
        all.paint(0, 0);
        Forms.tornWhole(all);
        due.is("struck ones and those of sheets that are apart, too", all.count(3), 400);
    }

    @Sentence(in = "Promise 14", says = "4 the fields that have one value when they are put together, as a set,")
    static void p14What4IsTheFieldsWithOneValueFromNoneToAll(Due due) {
        CarbonSheets x = Forms.stackOf(1, 4);
        due.is("none", x.count(4), 0);
        for (int field = 0; field < 10; field++) {
            x.write(field, 0, 2);
            due.is("up to field " + field, x.count(4), (2 << field) - 1);
        }
        x.amend(0, 0, 1, 2);
        due.is("a conflict has not one", x.count(4), ALL_FIELDS - 1);
        x.amend(0, 9, 1, 3);
        due.is("the other one with more votes is one", x.count(4), ALL_FIELDS - 1);
    }

    @Sentence(in = "Promise 14", says = "5 those that are in conflict, as a set,")
    static void p14What5IsTheFieldsInConflictFromNoneToAll(Due due) {
        CarbonSheets x = Forms.stackOf(1, 4);
        due.is("none", x.count(5), 0);
        for (int field = 0; field < 10; field++) {
            x.write(field, 0, 2);
            x.amend(0, field, 1, 2);
            due.is("up to field " + field, x.count(5), (2 << field) - 1);
        }
        due.is("none has one value", x.count(4), 0);
        x.amend(0, 9, 1, 3);
        due.is("more votes by 1 end it", x.count(5), ALL_FIELDS - 512);
        CarbonSheets five = Forms.apart();
        for (int sheet = 0; sheet < 5; sheet++) {
            five.amend(sheet, 9, sheet, 9);
        }
        due.is("between five values", five.count(5), 512);
    }

    @Sentence(in = "Promise 14", says = "6 the length of the pad,")
    static void p14What6IsTheLengthOfThePad0To80(Due due) {
        for (int length : new int[] {0, 1, 79, 80}) {
            due.is("a pad of " + length, Forms.padOf(length).count(6), length);
        }
        CarbonSheets x = Forms.padOf(80);
        x.put('t');
        due.is("an 81st character is none", x.count(6), 80);
    }

    @Sentence(in = "Promise 14", says = "7 how many changes can be undone,")
    static void p14What7IsHowManyChangesCanBeUndone0To6(Due due) {
        CarbonSheets x = new CarbonSheets();
        for (int changes = 0; changes <= 8; changes++) {
            due.is("after " + changes + " changes", x.count(7), Math.min(changes, 6));
            x.write(0, 5, 1);
        }
        for (int left = 5; left >= 0; left--) {
            x.undo();
            due.is("after undo()", x.count(7), left);
        }
        x.undo();
        due.is("after undo() of nothing", x.count(7), 0);
    }

    @Sentence(in = "Promise 14", says = "8, 9 the settings")
    static void p14What8And9AreTheSettings(Due due) {
        CarbonSheets x = new CarbonSheets();
        x.set(CarbonSheets.FAINT, 9);
        x.set(CarbonSheets.OVER, 0);
        due.is("count(8)", x.count(8), 9);
        due.is("count(9)", x.count(9), 0);
        x.set(CarbonSheets.FAINT, 1);
        x.set(CarbonSheets.OVER, 5);
        due.is("count(8)", x.count(8), 1);
        due.is("count(9)", x.count(9), 5);
    }

    @Sentence(in = "Promise 14", says = "Returns the number; BAD_VALUE if what is out of range.")
    static void p14AWhatOutOfRangeIsABadValue(Due due) {
        due.refusedOutside("count(?)", 0, 9, Forms::used, CarbonSheets::count, BAD_VALUE);
        due.refusedOutside("count(?), without a stack", 0, 9, Forms::torn, CarbonSheets::count, BAD_VALUE);
    }
}
