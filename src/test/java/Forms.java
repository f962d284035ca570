/** Objects with which the tests begin. */
final class Forms {
    /** What is checked of a stack of which the sheets top to low are left. */
    interface StackCheck {
        void of(int top, int low);
    }

    private Forms() { }

    /** A form with marks, a torn sheet at each end, a pad, two slots and a full history. */
    static CarbonSheets used() {
        CarbonSheets x = new CarbonSheets();
        x.set(CarbonSheets.OVER, 2);
        x.write(0, 500, 9);
        x.write(0, 700, 3);
        x.write(1, 20, 6);
        x.save(0);
        x.tear(0);
        x.tear(1);
        x.amend(0, 1, 21, 4);
        x.strike(0, 2);
        x.paint(4, 3);
        x.save(1);
        x.thickness(2, 0);
        append(x, "w3=12!5;s0!9;t");
        return x;
    }

    /** The same with room in its history. */
    static CarbonSheets withShortHistory() {
        CarbonSheets x = used();
        x.undo();
        x.undo();
        return x;
    }

    /** A form whose sheets are all torn off, with marks and slots. */
    static CarbonSheets torn() {
        return tornWhole(used());
    }

    /** A form with 8 marks at field 4 of the sheets 0 and 1, and 7 at those below. */
    static CarbonSheets full() {
        CarbonSheets x = new CarbonSheets();
        for (int i = 0; i < 7; i++) {
            x.write(4, i, 9);
        }
        x.write(4, 7, 2);
        x.save(0);
        return x;
    }

    /** A form with 8 marks at each field of each sheet, none struck, and room in its history; that takes 86 calls. */
    static CarbonSheets withAllMarks() {
        CarbonSheets x = new CarbonSheets();
        for (int sheet = 0; sheet < 4; sheet++) {
            x.carbon(sheet, 300);
        }
        for (int i = 0; i < 80; i++) {
            x.write(i / 8, i, 9);
        }
        x.set(CarbonSheets.OVER, 5);
        x.undo();
        return x;
    }

    /** A form whose sheet 0 is apart, with 8 marks at field 4. */
    static CarbonSheets fullApart() {
        CarbonSheets x = full();
        x.tear(0);
        return x;
    }

    /** A form whose sheets are all torn off, with 8 marks at field 4 of two of them. */
    static CarbonSheets fullTorn() {
        return tornWhole(full());
    }

    /** A new form of whose stack the sheets top to low are left. */
    static CarbonSheets stackOf(int top, int low) {
        CarbonSheets x = new CarbonSheets();
        for (int sheet = 0; sheet < top; sheet++) {
            x.tear(0);
        }
        for (int sheet = 4; sheet > low; sheet--) {
            x.tear(1);
        }
        return x;
    }

    static void eachStack(StackCheck check) {
        for (int top = 0; top < 5; top++) {
            for (int low = top; low < 5; low++) {
                check.of(top, low);
            }
        }
    }

    /** A new form whose sheets are all torn off, so that each can be amended. */
    static CarbonSheets apart() {
        return tornWhole(new CarbonSheets());
    }

    static CarbonSheets tornWhole(CarbonSheets x) {
        for (int i = 0; i < 5 && x.count(2) != 0; i++) {
            x.tear(0);
        }
        return x;
    }

    static void append(CarbonSheets x, String text) {
        for (int from = 0; from < text.length(); from += 8) {
            x.put(packed(text.substring(from, Math.min(from + 8, text.length()))));
        }
    }

    static CarbonSheets withPad(String text) {
        CarbonSheets x = new CarbonSheets();
        append(x, text);
        return x;
    }

    /** A new form with so many characters on its pad. */
    static CarbonSheets padOf(int length) {
        return withPad("t".repeat(length));
    }

    static long packed(String text) {
        long characters = 0;
        for (int i = 0; i < text.length(); i++) {
            characters = characters << 8 | text.charAt(i);
        }
        return characters;
    }
}
