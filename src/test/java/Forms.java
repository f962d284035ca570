/** Objects with which the tests begin. */
final class Forms {
    private Forms() { }

    /** A form with marks, a torn sheet at each end, a pad, two slots and a full history. */
    static CarbonSheets used() {
        CarbonSheets x = new CarbonSheets();
        x.set(CarbonSheets.OVER, 2);
        x.write(0, 500, 9);
        x.write(0, 700, 3);
        x.write(1, 20, 6);
        x.save(0);
        x.tear(0);
        x.tear(1);
        x.amend(0, 1, 21, 4);
        x.strike(0, 2);
        x.paint(4, 3);
        x.save(1);
        x.thickness(2, 0);
        append(x, "w3=12!5;s0!9;t");
        return x;
    }

    /** A form whose sheets are all torn off, with marks and slots. */
    static CarbonSheets torn() {
        CarbonSheets x = used();
        for (int i = 0; i < 3; i++) {
            x.tear(0);
        }
        return x;
    }

    /** A form with 8 marks at field 4 of the sheets 0 and 1, and 7 at those below. */
    static CarbonSheets full() {
        CarbonSheets x = new CarbonSheets();
        for (int i = 0; i < 7; i++) {
            x.write(4, i, 9);
        }
        x.write(4, 7, 2);
        x.save(0);
        return x;
    }

    static void append(CarbonSheets x, String text) {
        for (int from = 0; from < text.length(); from += 8) {
            x.put(packed(text.substring(from, Math.min(from + 8, text.length()))));
        }
    }

    static CarbonSheets withPad(String text) {
        CarbonSheets x = new CarbonSheets();
        append(x, text);
        return x;
    }

    static long packed(String text) {
        long characters = 0;
        for (int i = 0; i < text.length(); i++) {
            characters = characters << 8 | text.charAt(i);
        }
        return characters;
    }
}
