/** The boundary cases of what sheets read, alone and put together. */
final class BoundariesOfReadings {
    private static final int FAINT = CarbonSheets.FAINT, OVER = CarbonSheets.OVER;
    private static final int EMPTY = CarbonSheets.EMPTY, CLEAR = CarbonSheets.CLEAR, UNCLEAR = CarbonSheets.UNCLEAR;
    private static final int NONE = CarbonSheets.NONE;

    private BoundariesOfReadings() { }

    /** A form whose sheets are all apart and whose sheet 0 was amended at field 0: value, strength, value, strength .. */
    private static CarbonSheets withMarks(int... marks) {
        CarbonSheets x = Forms.apart();
        for (int i = 0; i < marks.length; i += 2) {
            x.amend(0, 0, marks[i], marks[i + 1]);
        }
        return x;
    }

    @Sentence(in = "Readings", says = "A mark is readable if it is not struck and its strength is at least FAINT.")
    static void aMarkIsReadableFromFaintOnIfNotStruck(Due due) {
        for (int faint = 1; faint <= 9; faint++) {
            for (int strength = 1; strength <= 9; strength++) {
                CarbonSheets x = withMarks(7, strength);
                x.set(FAINT, faint);
                int isReadable = strength >= faint ? 1 : 0;
                String call = "FAINT " + faint + ", strength " + strength;
                due.is(call, x.reading(0, 0, 4), isReadable);
                due.is(call + ": the value", x.reading(0, 0, 1), isReadable == 1 ? 7 : NONE);
                x.paint(0, 0);
                due.is(call + ", struck", x.reading(0, 0, 4), 0);
                due.is(call + ", struck: the marks", x.reading(0, 0, 3), 1);
            }
        }
    }

    @Sentence(in = "Readings", says = "What a sheet reads at a field is EMPTY (0) if no mark there is readable;")
    static void emptyIsAFieldWithoutAReadableMark(Due due) {
        due.is("EMPTY", EMPTY, 0);
        due.is("no mark", withMarks().reading(0, 0, 0), EMPTY);
        due.is("a mark fainter by 1 than FAINT", withMarks(7, 1).reading(0, 0, 0), EMPTY);
        due.is("one as strong as FAINT", withMarks(7, 2).reading(0, 0, 0), CLEAR);
        due.is("eight that are fainter", withMarks(1, 1, 2, 1, 3, 1, 4, 1, 5, 1, 6, 1, 7, 1, 8, 1).reading(0, 0, 0), EMPTY);
        CarbonSheets struck = withMarks(1, 9, 2, 9, 3, 9, 4, 9, 5, 9, 6, 9, 7, 9);
        struck.paint(0, 0);
        due.is("seven that are struck", struck.reading(0, 0, 0), EMPTY);
        struck.amend(0, 0, 8, 2);
        due.is("and an eighth that is not", struck.reading(0, 0, 0), CLEAR);
        struck.paint(0, 0);
        due.is("eight that are struck", struck.reading(0, 0, 0), EMPTY);
    }

    @Sentence(in = "Readings", says = "otherwise it is UNCLEAR (2) if some readable mark that was made before the last readable one, with "
        + "another value, is stronger than that by more than OVER;")
    static void unclearIsAnEarlierMarkStrongerByMoreThanOver(Due due) {
        due.is("UNCLEAR", UNCLEAR, 2);
        for (int over = 0; over <= 5; over++) {
            for (int strength = 2; strength <= 9; strength++) {
                CarbonSheets x = withMarks(1, strength, 2, 2);
                x.set(OVER, over);
                due.is("OVER " + over + ", " + strength + " before 2", x.reading(0, 0, 0), strength - 2 > over ? UNCLEAR : CLEAR);
            }
        }
        due.is("with the same value", withMarks(1, 9, 1, 2).reading(0, 0, 0), CLEAR);
        due.is("made later, it is the last one", withMarks(1, 2, 2, 9).reading(0, 0, 0), CLEAR);
        due.is("the first of eight", withMarks(1, 4, 2, 2, 2, 2, 2, 2, 2, 2, 2, 2, 2, 2, 2, 2).reading(0, 0, 0), UNCLEAR);
        due.is("the seventh of eight", withMarks(2, 2, 2, 2, 2, 2, 2, 2, 2, 2, 2, 2, 1, 4, 2, 2).reading(0, 0, 0), UNCLEAR);
        due.is("not with the one between", withMarks(1, 4, 2, 2, 1, 3).reading(0, 0, 0), CLEAR);
        due.is("an unreadable one behind it is not the last one", withMarks(1, 4, 2, 3, 3, 1).reading(0, 0, 0), CLEAR);
        CarbonSheets struck = withMarks(1, 9);
        struck.paint(0, 0);
        struck.amend(0, 0, 2, 2);
        due.is("a struck one does not count", struck.reading(0, 0, 0), CLEAR);
    }

    @Sentence(in = "Readings", says = "otherwise it is CLEAR (1), with the value of the last readable mark.")
    static void clearIsTheValueOfTheLastReadableMark(Due due) {
        due.is("CLEAR", CLEAR, 1);
        CarbonSheets x = withMarks(999, 3, 0, 2, 5, 1);
        due.is("the kind", x.reading(0, 0, 0), CLEAR);
        due.is("the least value, behind the greatest one", x.reading(0, 0, 1), 0);
        x.set(FAINT, 3);
        due.is("the greatest value, if the others are too faint", x.reading(0, 0, 1), 999);
        x.set(FAINT, 1);
        due.is("the last one, if it is not too faint", x.reading(0, 0, 1), 5);
        due.is("then the first one makes it unclear", x.reading(0, 0, 0), UNCLEAR);
    }

    @Sentence(in = "Readings", says = "Put together, a field has the readings of all sheets that are CLEAR there: each value has as many votes as "
        + "the strengths of the last readable marks of these sheets that read it, together.")
    static void votesAreTheStrengthsOfTheLastReadableMarks(Due due) {
        CarbonSheets x = Forms.apart();
        for (int sheet = 0; sheet < 5; sheet++) {
            x.amend(sheet, 0, 5, 9);
            due.is("votes of " + (sheet + 1) + " sheets", x.together(0, 3), 9 * (sheet + 1));
        }
        x.amend(4, 0, 5, 1);
        due.is("a last mark that is not readable does not count", x.together(0, 3), 45);
        x.amend(4, 0, 5, 2);
        due.is("the last readable one does, and not the strongest one", x.together(0, 3), 38);
        x.amend(3, 0, 6, 8);
        due.is("another value is not counted with it", x.together(0, 3), 29);
        x.amend(2, 0, 5, 9);
        x.amend(2, 0, 6, 2);
        due.is("a sheet that is unclear does not count", x.together(0, 3), 20);
        due.is("nor is it in the set", x.together(0, 4), 0b11011);
        CarbonSheets stacked = new CarbonSheets();
        stacked.write(0, 5, 6);
        due.is("sheets of the stack, down to FAINT", stacked.together(0, 3), 6 + 5 + 4 + 3 + 2);
        stacked.tear(0);
        stacked.tear(1);
        due.is("sheets that are apart count on", stacked.together(0, 3), 20);
    }

    @Sentence(in = "Readings", says = "If no sheet is CLEAR there, it has none;")
    static void noReadingIfNoSheetIsClear(Due due) {
        togetherIs(due, "no mark", Forms.apart(), 0, NONE, NONE, 0, 0);
        togetherIs(due, "faint marks", withMarks(7, 1), 0, NONE, NONE, 0, 0);
        CarbonSheets unclear = withMarks(7, 9, 8, 2);
        unclear.amend(4, 0, 8, 9);
        unclear.amend(4, 0, 7, 2);
        togetherIs(due, "unclear sheets alone", unclear, 0, NONE, NONE, 0, 0);
        unclear.amend(4, 0, 0, 9);
        togetherIs(due, "and a clear one", unclear, 1, 0, 0, 9, 16);
    }

    @Sentence(in = "Readings", says = "if one value has more votes than each other one, it has this one;")
    static void oneValueHasMoreVotesThanEachOther(Due due) {
        CarbonSheets x = withMarks(5, 6);
        x.amend(1, 0, 3, 3);
        x.amend(2, 0, 3, 2);
        togetherIs(due, "6 against 3 + 2", x, 1, 5, 5, 6, 7);
        x.amend(3, 0, 3, 2);
        togetherIs(due, "6 against 3 + 2 + 2", x, 1, 3, 3, 7, 15);
        x.amend(4, 0, 9, 7);
        togetherIs(due, "7 against 7", x, 2, 3, 9, 7, 31);
        x.amend(4, 0, 9, 8);
        togetherIs(due, "7 against 8", x, 1, 9, 9, 8, 31);
    }

    @Sentence(in = "Readings", says = "otherwise it is in conflict, between the values with the most votes.")
    static void aConflictIsBetweenTheValuesWithTheMostVotes(Due due) {
        CarbonSheets x = withMarks(999, 2);
        int[] values = {0, 500, 1, 998};
        for (int sheet = 1; sheet < 5; sheet++) {
            x.amend(sheet, 0, values[sheet - 1], 2);
            togetherIs(due, (sheet + 1) + " values", x, sheet + 1, 0, 999, 2, (2 << sheet) - 1);
        }
        due.is("the fields in conflict", x.count(5), 1);
        due.is("the fields with one value", x.count(4), 0);
        x.amend(0, 0, 998, 2);
        togetherIs(due, "two sheets read the same", x, 1, 998, 998, 4, 31);
        due.is("the fields in conflict", x.count(5), 0);
        due.is("the fields with one value", x.count(4), 1);
        x.amend(1, 0, 400, 4);
        togetherIs(due, "the values with fewer votes stand aside", x, 2, 400, 998, 4, 31);
    }

    private static void togetherIs(Due due, String call, CarbonSheets x, int... want) {
        for (int what = 0; what < 5; what++) {
            due.is(call + ": together(0, " + what + ")", x.together(0, what), want[what]);
        }
    }

    @Sentence(in = "Readings", says = "A field of a sheet was amended apart if the sheet was painted (also if nothing was struck by it) or "
        + "amended there when it was apart.")
    static void amendedApartIsPaintedOrAmendedWhenApart(Due due) {
        CarbonSheets x = new CarbonSheets();
        x.write(0, 1, 9);
        x.paint(0, 0);
        x.tear(0);
        due.is("painted as the top one", x.ofSheet(0, 7), 0);
        due.is("paint(0, 0) strikes nothing", x.paint(0, 0), 0);
        due.is("painted apart", x.ofSheet(0, 7), 1);
        x.paint(0, 9);
        due.is("painted where no mark is", x.ofSheet(0, 7), 1 + 512);
        x.amend(0, 5, 1, 1);
        due.is("amended apart", x.ofSheet(0, 7), 1 + 32 + 512);
        x.amend(0, 5, 1, 1);
        x.paint(0, 5);
        due.is("more than once", x.ofSheet(0, 7), 1 + 32 + 512);
        x.write(3, 1, 9);
        x.strike(0, 9);
        due.is("writing and striking do not amend", x.ofSheet(1, 7), 0);
        due.is("no other sheet was amended", x.ofSheet(4, 7), 0);
        CarbonSheets full = Forms.fullApart();
        full.amend(0, 4, 1, 1);
        due.is("a refused amend() does not amend", full.ofSheet(0, 7), 0);
    }
}
