/** The ordinary cases of promises 24 to 26. */
public final class UndoSavingTest {
    private static final Due DUE = new Due();

    public static void main(String[] args) {
        undo();
        historyIsShort();
        save();
        restore();
        slotsAndHistory();
        DUE.end();
    }

    private static void undo() {
        CarbonSheets x = new CarbonSheets();
        x.write(0, 1, 9);
        x.tear(0);
        x.amend(0, 0, 2, 9);
        DUE.is("undo()", x.undo(), 2);
        DUE.is("the amended mark is gone", x.reading(0, 0, 3), 1);
        DUE.is("it was not amended apart", x.ofSheet(0, 7), 0);
        DUE.is("undo()", x.undo(), 1);
        DUE.is("the sheet is back", x.count(2), 31);
        DUE.is("a change after undo()", x.write(0, 3, 9), 5);
        DUE.is("count(7)", x.count(7), 2);
        DUE.is("undo()", x.undo(), 1);
        DUE.is("undo()", x.undo(), 0);
        DUE.is("no mark", x.count(3), 0);
        DUE.is("the carbon", x.ofSheet(0, 1), 60);
        DUE.is("none is left", x.undo(), CarbonSheets.NOT_POSSIBLE);
        CarbonSheets y = Forms.withPad("t;");
        y.set(CarbonSheets.FAINT, 2);
        DUE.is("a change by which nothing is different", y.count(7), 1);
        y.put('b');
        y.save(0);
        DUE.is("put() and save() are none", y.count(7), 1);
        y.undo();
        DUE.is("the pad stays", y.count(6), 3);
        DUE.is("the slot stays", y.restore(0), 31);
    }

    private static void historyIsShort() {
        CarbonSheets x = new CarbonSheets();
        for (int i = 1; i <= 20; i++) {
            x.carbon(0, 100 + i);
            DUE.is("count(7)", x.count(7), Math.min(i, 6));
        }
        for (int left = 5; left >= 0; left--) {
            DUE.is("undo()", x.undo(), left);
            DUE.is("the carbon", x.ofSheet(0, 1), 114 + left);
        }
        DUE.is("undo()", x.undo(), CarbonSheets.NOT_POSSIBLE);
        DUE.is("the carbon", x.ofSheet(0, 1), 114);
        for (int i = 1; i <= 6; i++) {
            x.carbon(0, i);
        }
        for (int left = 5; left > 0; left--) {
            DUE.is("undo()", x.undo(), left);
            DUE.is("the carbon", x.ofSheet(0, 1), left);
        }
    }

    private static void save() {
        CarbonSheets x = new CarbonSheets();
        DUE.is("save(0)", x.save(0), 31);
        x.tear(0);
        DUE.is("save(1)", x.save(1), 30);
        x.tear(1);
        DUE.is("save(1)", x.save(1), 14);
        DUE.is("count(7)", x.count(7), 2);
        DUE.is("restore(0)", x.restore(0), 31);
        DUE.is("what was saved last", x.restore(1), 14);
        DUE.is("save() of no stack", Forms.torn().save(0), 0);
    }

    private static void restore() {
        CarbonSheets x = new CarbonSheets();
        x.set(CarbonSheets.FAINT, 3);
        x.set(CarbonSheets.OVER, 4);
        x.write(7, 8, 9);
        x.thickness(1, 3);
        x.tear(0);
        x.amend(0, 2, 5, 9);
        x.save(1);
        x.set(CarbonSheets.FAINT, 9);
        x.set(CarbonSheets.OVER, 0);
        x.write(7, 9, 9);
        x.strike(7, 9);
        x.thickness(1, 0);
        x.carbon(1, 300);
        x.tear(1);
        x.paint(0, 3);
        x.put('t');
        DUE.is("restore(1)", x.restore(1), 30);
        int[][] counts = {{0, 1}, {1, 4}, {2, 30}, {3, 6}, {6, 1}, {7, 6}, {8, 3}, {9, 4}};
        for (int[] pair : counts) {
            DUE.is("count(" + pair[0] + ")", x.count(pair[0]), pair[1]);
        }
        DUE.is("the thickness", x.ofSheet(1, 0), 3);
        DUE.is("the carbon", x.ofSheet(1, 1), 59);
        DUE.is("the fields amended apart", x.ofSheet(0, 7), 4);
        DUE.is("no mark is struck", x.ofSheet(1, 4), 0);
    }

    private static void slotsAndHistory() {
        CarbonSheets x = new CarbonSheets();
        x.save(0);
        x.write(0, 1, 9);
        DUE.is("restore(0)", x.restore(0), 31);
        DUE.is("count(7)", x.count(7), 2);
        DUE.is("no mark", x.count(3), 0);
        x.write(0, 2, 1);
        DUE.is("the slot keeps what was saved", x.restore(0), 31);
        DUE.is("no mark", x.count(3), 0);
        DUE.is("undo of restore()", x.undo(), 3);
        DUE.is("a mark", x.count(3), 1);
        x.undo();
        DUE.is("undo of the first restore()", x.undo(), 1);
        DUE.is("five marks", x.count(3), 5);
        x.save(1);
        DUE.is("undo()", x.undo(), 0);
        DUE.is("undo() leaves the slots", x.restore(1), 31);
        DUE.is("five marks", x.count(3), 5);
    }
}
