/** The ordinary cases of promises 1 to 4. */
public final class SettingUpTest {
    private static final Due DUE = new Due();

    public static void main(String[] args) {
        newObject();
        set();
        thickness();
        carbon();
        DUE.end();
    }

    private static void newObject() {
        CarbonSheets x = new CarbonSheets();
        int[] counts = {0, 4, 31, 0, 0, 0, 0, 0, 2, 1};
        for (int what = 0; what < counts.length; what++) {
            DUE.is("new: count(" + what + ")", x.count(what), counts[what]);
        }
        int[] ofSheet = {1, 60, 0, 0, 0, 0, 0, 0};
        for (int sheet = 0; sheet < 5; sheet++) {
            for (int what = 0; what < ofSheet.length; what++) {
                DUE.is("new: ofSheet(" + sheet + ", " + what + ")", x.ofSheet(sheet, what), ofSheet[what]);
            }
            for (int field = 0; field < 10; field++) {
                DUE.is("new: reading(" + sheet + ", " + field + ", 0)", x.reading(sheet, field, 0), CarbonSheets.EMPTY);
                DUE.is("new: reading(" + sheet + ", " + field + ", 3)", x.reading(sheet, field, 3), 0);
            }
        }
        DUE.is("new: fault()", x.fault(), 0);
        DUE.is("new: undo()", x.undo(), CarbonSheets.NOT_POSSIBLE);
        DUE.is("new: restore(0)", x.restore(0), CarbonSheets.NOT_POSSIBLE);
        DUE.is("new: restore(1)", x.restore(1), CarbonSheets.NOT_POSSIBLE);
        CarbonSheets other = new CarbonSheets();
        x.write(0, 1, 9);
        DUE.is("another object: count(3)", other.count(3), 0);
    }

    private static void set() {
        CarbonSheets x = new CarbonSheets();
        DUE.is("set(FAINT, 9)", x.set(CarbonSheets.FAINT, 9), 2);
        DUE.is("set(FAINT, 1)", x.set(CarbonSheets.FAINT, 1), 9);
        DUE.is("set(FAINT, 1) again", x.set(CarbonSheets.FAINT, 1), 1);
        DUE.is("set(OVER, 5)", x.set(CarbonSheets.OVER, 5), 1);
        DUE.is("set(OVER, 0)", x.set(CarbonSheets.OVER, 0), 5);
        DUE.is("count(8)", x.count(8), 1);
        DUE.is("count(9)", x.count(9), 0);
        DUE.is("count(7)", x.count(7), 5);
    }

    private static void thickness() {
        CarbonSheets x = new CarbonSheets();
        DUE.is("thickness(2, 4)", x.thickness(2, 4), 1);
        DUE.is("thickness(2, 0)", x.thickness(2, 0), 4);
        DUE.is("ofSheet(2, 0)", x.ofSheet(2, 0), 0);
        DUE.is("ofSheet(1, 0)", x.ofSheet(1, 0), 1);
        DUE.is("count(7)", x.count(7), 2);
        x.write(0, 1, 3);
        DUE.is("nothing is lost below a sheet of thickness 0", x.reading(3, 0, 2), x.reading(2, 0, 2));
        x.tear(0);
        DUE.is("thickness of a sheet that is apart", x.thickness(0, 3), 1);
        DUE.is("ofSheet(0, 0)", x.ofSheet(0, 0), 3);
    }

    private static void carbon() {
        CarbonSheets x = new CarbonSheets();
        DUE.is("carbon(1, 300)", x.carbon(1, 300), 60);
        DUE.is("carbon(1, 0)", x.carbon(1, 0), 300);
        DUE.is("carbon(4, 7)", x.carbon(4, 7), 60);
        DUE.is("ofSheet(1, 1)", x.ofSheet(1, 1), 0);
        DUE.is("ofSheet(4, 1)", x.ofSheet(4, 1), 7);
        DUE.is("count(7)", x.count(7), 3);
        DUE.is("no press comes through an empty carbon", x.write(0, 1, 9), 2);
    }
}
