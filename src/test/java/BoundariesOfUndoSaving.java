import java.util.List;
import java.util.function.ToIntFunction;

/** The boundary cases of promises 24 to 26. */
final class BoundariesOfUndoSaving {
    private static final int BAD_VALUE = CarbonSheets.BAD_VALUE, NOT_POSSIBLE = CarbonSheets.NOT_POSSIBLE, NONE = CarbonSheets.NONE;

    /** Each method that is a change, also where nothing is different then; none is refused by Forms.withShortHistory(). */
    private static final List<ToIntFunction<CarbonSheets>> CHANGES = List.of(
        x -> x.set(0, 9), x -> x.set(0, 2), x -> x.set(1, 5), x -> x.thickness(2, 4), x -> x.thickness(2, 1), x -> x.carbon(1, 0),
        x -> x.carbon(3, 60), x -> x.write(0, 1, 9), x -> x.write(9, 1, 1), x -> x.strike(0, 9), x -> x.strike(9, 1), x -> x.paint(1, 0),
        x -> x.paint(1, 9), x -> x.amend(0, 0, 1, 1), x -> x.tear(0), x -> x.tear(1), CarbonSheets::carryOut, x -> x.restore(0),
        x -> x.restore(1));

    /** Each method that is no change. */
    private static final List<ToIntFunction<CarbonSheets>> NO_CHANGES = List.of(
        x -> x.ofSheet(0, 0), x -> x.reading(0, 0, 0), x -> x.ofMark(0, 0, 0, 0), x -> x.together(0, 0), x -> x.count(0), x -> x.differ(0, 1),
        x -> x.enoughFor(1), x -> x.strikeFor(0), x -> x.lasts(9), x -> x.ifWritten(0, 1, 9), x -> x.put('t'), CarbonSheets::wipe,
        CarbonSheets::fault, x -> x.save(0), x -> x.save(1));

    private BoundariesOfUndoSaving() { }

    @Sentence(in = "Promise 24", says = "Undoes the latest change: everything except the pad, the slots and the history is as it was before it.")
    static void p24EverythingButPadSlotsAndHistoryIsAsBefore(Due due) {
        CarbonSheets x = new CarbonSheets();
        x.write(0, 1, 9);
        x.save(0);
        x.put('t');
        x.tear(0);
        x.save(1);
        x.put(';');
        due.is("undo()", x.undo(), 1);
        due.is("the stack", x.count(2), 31);
        due.is("the pad keeps what was put since", x.count(6), 2);
        due.is("slot 1 keeps what was saved since", x.restore(1), 30);
        due.is("undo() of restore()", x.undo(), 1);
        due.is("undo() of write()", x.undo(), 0);
        due.is("the marks", x.count(3), 0);
        due.is("the uses", x.ofSheet(0, 1), 60);
        due.is("slot 0 keeps what was saved", x.restore(0), 31);
        due.is("its marks", x.count(3), 5);
        CarbonSheets wiped = Forms.withPad("t;b");
        wiped.carryOut();
        due.is("undo() of carryOut()", wiped.undo(), 0);
        due.is("the pad stays empty", wiped.count(6), 0);
        due.is("the stack", wiped.count(2), 31);
        CarbonSheets saved = Forms.used();
        saved.undo();
        due.is("what was undone can be saved", saved.save(0), 14);
        due.is("and restored", saved.restore(0), 14);
    }

    @Sentence(in = "Promise 24", says = "A history of at most 6 states is kept: each method that is a change, and returns no error, records the state "
        + "before it (also if nothing is different then);")
    static void p24EachChangeIsRecordedAndNothingElse(Due due) {
        for (ToIntFunction<CarbonSheets> change : CHANGES) {
            CarbonSheets x = Forms.withShortHistory();
            String call = "change " + CHANGES.indexOf(change);
            due.is(call + ": the changes before", x.count(7), 4);
            due.is(call + ": the errors", Math.min(0, change.applyAsInt(x)), 0);
            due.is(call + ": the changes then", x.count(7), 5);
        }
        for (ToIntFunction<CarbonSheets> call : NO_CHANGES) {
            CarbonSheets x = Forms.withShortHistory();
            call.applyAsInt(x);
            due.is("no change " + NO_CHANGES.indexOf(call) + ": the changes then", x.count(7), 4);
        }
        CarbonSheets same = new CarbonSheets();
        for (int changes = 1; changes <= 6; changes++) {
            same.set(CarbonSheets.FAINT, 2);
            due.is("changes without a difference", same.count(7), changes);
        }
        due.is("a refused one", same.set(CarbonSheets.FAINT, 0), BAD_VALUE);
        for (int left = 5; left >= 0; left--) {
            due.is("undo()", same.undo(), left);
        }
        due.is("none is left", same.undo(), NOT_POSSIBLE);
    }

    @Sentence(in = "Promise 24", says = "when one more is recorded, the oldest one is dropped.")
    static void p24TheSeventhDropsTheOldest(Due due) {
        for (int changes = 1; changes <= 20; changes++) {
            CarbonSheets x = new CarbonSheets();
            for (int i = 1; i <= changes; i++) {
                x.carbon(0, 100 + i);
            }
            int kept = Math.min(changes, 6);
            due.is("after " + changes + ": count(7)", x.count(7), kept);
            for (int left = kept - 1; left >= 0; left--) {
                due.is("after " + changes + ": undo()", x.undo(), left);
                int before = changes - kept + left;
                due.is("after " + changes + ", with " + left + " left", x.ofSheet(0, 1), before == 0 ? 60 : 100 + before);
            }
            due.is("after " + changes + ": undo() of nothing", x.undo(), NOT_POSSIBLE);
        }
        CarbonSheets x = new CarbonSheets();
        for (int i = 1; i <= 8; i++) {
            x.carbon(0, i);
        }
        x.undo();
        x.undo();
        for (int i = 11; i <= 13; i++) {
            x.carbon(0, i);
        }
        int[] uses = {12, 11, 6, 5, 4, 3};
        for (int i = 0; i < 6; i++) {
            due.is("changes behind undone ones: undo()", x.undo(), 5 - i);
            due.is("changes behind undone ones: the uses", x.ofSheet(0, 1), uses[i]);
        }
        due.is("undo() of nothing", x.undo(), NOT_POSSIBLE);
    }

    @Sentence(in = "Promise 24", says = "An order of a text records nothing by itself.")
    static void p24OrdersRecordNothing(Due due) {
        CarbonSheets x = Forms.withPad("w0=1!9;w0=2!9;w0=3!9;s0!9;t;b;t;b");
        x.set(CarbonSheets.FAINT, 1);
        due.is("carryOut()", x.carryOut(), 8);
        due.is("count(7)", x.count(7), 2);
        due.is("undo()", x.undo(), 1);
        due.is("the marks", x.count(3), 0);
        due.is("the stack", x.count(2), 31);
        due.is("the setting", x.count(8), 1);
        CarbonSheets full = Forms.used();
        int uses = full.ofSheet(1, 1);
        due.is("with a full history: carryOut()", full.carryOut(), 3);
        due.is("count(7)", full.count(7), 6);
        due.is("undo()", full.undo(), 5);
        due.is("the stack", full.count(2), 14);
        due.is("the uses", full.ofSheet(1, 1), uses);
    }

    @Sentence(in = "Promise 24", says = "Returns how many changes can be undone then;")
    static void p24Returns5To0(Due due) {
        CarbonSheets x = Forms.used();
        for (int left = 5; left >= 0; left--) {
            due.is("undo()", x.undo(), left);
            due.is("count(7)", x.count(7), left);
        }
        x.tear(0);
        due.is("undo() of one more", x.undo(), 0);
    }

    @Sentence(in = "Promise 24", says = "NOT_POSSIBLE if there is none.")
    static void p24AnEmptyHistory(Due due) {
        due.refused("undo() of a new object", CarbonSheets::new, CarbonSheets::undo, NOT_POSSIBLE);
        due.refused("undo() with a pad and slots", () -> {
            CarbonSheets x = Forms.withPad("w0=1!1");
            x.save(0);
            return x;
        }, CarbonSheets::undo, NOT_POSSIBLE);
        due.refused("undo() when all is undone", () -> {
            CarbonSheets x = Forms.used();
            for (int i = 0; i < 6; i++) {
                x.undo();
            }
            return x;
        }, CarbonSheets::undo, NOT_POSSIBLE);
    }

    @Sentence(in = "Promise 25", says = "Saves everything except the pad, the history and the slots in a slot, and overwrites what was saved there.")
    static void p25SavesEverythingButPadHistoryAndSlots(Due due) {
        for (int slot = 0; slot < 2; slot++) {
            int here = slot;
            due.sameAfter("save(" + slot + "), changes, restore(" + slot + "), undo() of all", () -> {
                CarbonSheets x = new CarbonSheets();
                x.write(0, 1, 9);
                x.save(here);
                return x;
            }, x -> {
                x.save(here);
                x.set(0, 9);
                x.tear(0);
                x.restore(here);
                return x.undo() + x.undo() + x.undo();
            });
        }
        CarbonSheets x = Forms.used();
        due.is("save(0)", x.save(0), 14);
        due.is("the history is as it was", x.count(7), 6);
        due.is("the pad is as it was", x.count(6), 14);
        x.wipe();
        x.tear(0);
        due.is("save(0) overwrites", x.save(0), 12);
        due.is("save(1)", x.save(1), 12);
        x.tear(0);
        due.is("restore(0)", x.restore(0), 12);
        due.is("the pad is not brought back", x.count(6), 0);
        due.is("a new object's slots are its own", new CarbonSheets().restore(0), NOT_POSSIBLE);
    }

    @Sentence(in = "Promise 25", says = "`slot`: 0 or 1")
    static void p25ASlotIs0Or1(Due due) {
        CarbonSheets x = new CarbonSheets();
        due.is("save(0)", x.save(0), 31);
        due.is("slot 1 is empty", x.restore(1), NOT_POSSIBLE);
        x.tear(1);
        due.is("save(1)", x.save(1), 15);
        due.is("slot 0 has its own", x.restore(0), 31);
        due.is("slot 1 has its own", x.restore(1), 15);
    }

    @Sentence(in = "Promise 25", says = "Returns the sheets of the stack, as a set;")
    static void p25ReturnsTheStackFromAllToNone(Due due) {
        Forms.eachStack((top, low) -> {
            due.is("stack " + top + " to " + low, Forms.stackOf(top, low).save(1), (2 << low) - (1 << top));
        });
        due.is("without a stack", Forms.apart().save(0), 0);
    }

    @Sentence(in = "Promise 25", says = "BAD_VALUE if there is no such slot.")
    static void p25NoSuchSlot(Due due) {
        due.refusedOutside("save(?)", 0, 1, Forms::used, CarbonSheets::save, BAD_VALUE);
        due.refusedOutside("save(?), on a new object", 0, 1, CarbonSheets::new, CarbonSheets::save, BAD_VALUE);
    }

    @Sentence(in = "Promise 26", says = "Restores what was saved last in a slot, which keeps it. This is a change.")
    static void p26RestoresWhatWasSavedLastAndTheSlotKeepsIt(Due due) {
        for (int slot = 0; slot < 2; slot++) {
            int here = slot;
            due.isChange("restore(" + slot + ")", Forms::withShortHistory, x -> x.restore(here));
        }
        due.isChange("restore(0) of what is there", BoundariesOfUndoSaving::saved, x -> x.restore(0));
        due.isChange("restore(0) of no marks over all that can be", () -> {
            CarbonSheets x = new CarbonSheets();
            x.save(0);
            for (int i = 0; i < 4; i++) {
                Forms.append(x, "w0=1!9;w3=2!9;w6=3!9;w9=4!9;w8=5!9;s9!9");
                x.carryOut();
            }
            return x;
        }, x -> x.restore(0));
        CarbonSheets x = saved();
        x.write(0, 2, 9);
        x.tear(0);
        for (int times = 0; times < 3; times++) {
            due.is("restore(0)", x.restore(0), 31);
            due.is("the marks", x.count(3), 5);
            due.is("the uses", x.ofSheet(0, 1), 59);
            due.is("the set of those amended apart", x.ofSheet(0, 7), 0);
            x.tear(0);
            x.amend(0, 0, 3, 9);
            x.paint(0, 5);
        }
        x.save(0);
        due.is("what was saved last", x.restore(0), 30);
        due.is("its marks", x.count(3), 6);
        due.is("its set of those amended apart", x.ofSheet(0, 7), 1 + 32);
    }

    /** A form with a mark on each sheet, saved in slot 0. */
    private static CarbonSheets saved() {
        CarbonSheets x = new CarbonSheets();
        x.write(0, 1, 9);
        x.save(0);
        return x;
    }

    @Sentence(in = "Promise 26", says = "`slot`: 0 or 1")
    static void p26ASlotIs0Or1(Due due) {
        CarbonSheets x = new CarbonSheets();
        x.save(1);
        x.tear(0);
        x.save(0);
        x.tear(0);
        due.is("restore(0)", x.restore(0), 30);
        due.is("restore(1)", x.restore(1), 31);
        due.is("restore(0)", x.restore(0), 30);
        due.is("restore(2)", x.restore(2), BAD_VALUE);
        due.is("restore(-1)", x.restore(-1), BAD_VALUE);
    }

    @Sentence(in = "Promise 26", says = "Returns the sheets of the stack then, as a set;")
    static void p26ReturnsTheStackThenFromAllToNone(Due due) {
        Forms.eachStack((top, low) -> {
            CarbonSheets x = Forms.stackOf(top, low);
            x.save(0);
            Forms.tornWhole(x);
            x.save(1);
            due.is("stack " + top + " to " + low, x.restore(0), (2 << low) - (1 << top));
            due.is("count(2)", x.count(2), (2 << low) - (1 << top));
            due.is("without a stack", x.restore(1), 0);
            due.is("count(2)", x.count(2), 0);
            due.is("the top one", x.count(0), NONE);
        });
    }

    @Sentence(in = "Promise 26", says = "BAD_VALUE if there is no such slot;")
    static void p26NoSuchSlotIsTheFirstError(Due due) {
        due.refusedOutside("restore(?)", 0, 1, Forms::used, CarbonSheets::restore, BAD_VALUE);
        due.refusedOutside("restore(?), nothing saved", 0, 1, CarbonSheets::new, CarbonSheets::restore, BAD_VALUE);
    }

    @Sentence(in = "Promise 26", says = "NOT_POSSIBLE if nothing was saved in it.")
    static void p26AnEmptySlotIsTheLastError(Due due) {
        due.refused("restore(0) of a new object", CarbonSheets::new, x -> x.restore(0), NOT_POSSIBLE);
        due.refused("restore(1) of a new object", CarbonSheets::new, x -> x.restore(1), NOT_POSSIBLE);
        due.refused("restore(1), slot 0 is saved", BoundariesOfUndoSaving::saved, x -> x.restore(1), NOT_POSSIBLE);
        CarbonSheets x = saved();
        x.undo();
        due.is("undo() empties no slot", x.restore(0), 31);
        due.is("and fills none", x.restore(1), NOT_POSSIBLE);
    }
}
