import java.util.List;

/** The boundary cases of the texts and of promises 20 to 23. */
final class BoundariesOfTexts {
    private static final int BAD_VALUE = CarbonSheets.BAD_VALUE, BAD_TEXT = CarbonSheets.BAD_TEXT,
        TOO_MANY = CarbonSheets.TOO_MANY, NONE = CarbonSheets.NONE;

    private BoundariesOfTexts() { }

    /** Checks the fault of texts in which the sign ^ stands before the first bad character. */
    private static void faultsAre(Due due, String... texts) {
        for (String text : texts) {
            CarbonSheets x = Forms.withPad(text.replace("^", ""));
            due.is("fault() of " + text, x.fault(), text.indexOf('^'));
            due.is("carryOut() of " + text, x.carryOut(), BAD_TEXT);
        }
    }

    private static void areWithoutFault(Due due, String... texts) {
        for (String text : texts) {
            due.is("fault() of " + text, Forms.withPad(text).fault(), NONE);
        }
    }

    /** Checks texts that end too early: each must be good with the end that is told behind the sign ^. */
    private static void endTooEarly(Due due, String... texts) {
        for (String text : texts) {
            String early = text.substring(0, text.indexOf('^'));
            due.is("fault() of '" + early + "'", Forms.withPad(early).fault(), early.length());
            due.refused("carryOut() of '" + early + "'", () -> Forms.withPad(early), CarbonSheets::carryOut, BAD_TEXT);
            areWithoutFault(due, text.replace("^", ""));
        }
    }

    @Sentence(in = "Texts", says = "The pad is a text of at most 80 characters, a row of orders:")
    static void thePadHoldsUpTo80Characters(Due due) {
        String text = "s0!1;".repeat(15) + "s0!12";
        CarbonSheets x = Forms.withPad(text);
        due.is("80 characters", x.count(6), 80);
        due.is("the last one is read", x.fault(), 79);
        CarbonSheets y = Forms.withPad("w0=1!1;".repeat(11) + "t;");
        due.is("79 characters", y.count(6), 79);
        due.is("an 80th", y.put('b'), 80);
        due.is("an 81st", y.put('b'), TOO_MANY);
        due.is("all are read", y.fault(), NONE);
        due.is("an early end at 80", Forms.withPad("s0!1;".repeat(16)).fault(), 80);
    }

    @Sentence(in = "Texts", says = "text = order { \";\" order }")
    static void aTextIsOrdersBetweenSemicolons(Due due) {
        areWithoutFault(due, "t", "t;b", "w0=0!1;s0!1;t;b;w9=999!9");
        faultsAre(due, "^;", "^;t", "t^t", "t^,b", "t;^;b", "b^b;t", "s0!1^s0!1", "w0=0!1^w0=0!1", "t;b^:");
        endTooEarly(due, "^t", "t;^b", "w0=0!1;^t", "s0!1;^w0=0!1");
    }

    @Sentence(in = "Texts", says = "order = \"w\" digit \"=\" number \"!\" pressure | \"s\" digit \"!\" pressure | \"t\" | \"b\"")
    static void anOrderHasItsSignsInTheirOrder(Due due) {
        faultsAre(due, "^x", "^W", "^S", "^T", "^B", "^a", "^c", "^r", "^u", "^v", "^0", "^=", "^!", "^~", "w^w", "w^=0!1", "w0^!1", "w0^0=1!1",
            "w0=^!1", "w0=^=1!1", "w0=1^=", "w0=1^;", "w0=1!^!1", "w0=1!1^!", "s^s", "s^!1", "s0^=1!1", "s0^01!1", "s0!^!1", "s0!1^1", "t^0",
            "b^0", "t^!1", "b^=");
        endTooEarly(due, "w^0=0!1", "w0^=0!1", "w0=^0!1", "w0=0^!1", "w0=12^3!1", "w0=12^!1", "w0=0!^1", "s^0!1", "s0^!1", "s0!^1");
    }

    @Sentence(in = "Texts", says = "\"w\": write() a value at a field; \"s\": strike() a field; \"t\": tear() off the top sheet; "
        + "\"b\": tear() off the lowest one.")
    static void theOrdersDoWhatTheCallsDo(Due due) {
        CarbonSheets x = Forms.withPad("w9=999!9");
        due.is("w", x.carryOut(), 1);
        due.is("the value", x.ofMark(0, 9, 0, 0), 999);
        due.is("the strength on the top sheet", x.ofMark(0, 9, 0, 1), 9);
        due.is("the strength on the lowest sheet", x.ofMark(4, 9, 0, 1), 5);
        due.is("a use", x.ofSheet(3, 1), 59);
        Forms.append(x, "s9!5");
        due.is("s", x.carryOut(), 1);
        due.is("5 strikes no 9", x.ofSheet(0, 4), 0);
        due.is("a use", x.ofSheet(3, 1), 58);
        Forms.append(x, "s9!9");
        due.is("s", x.carryOut(), 1);
        due.is("9 strikes a 9", x.ofSheet(0, 4), 1);
        due.is("and the mark below", x.ofSheet(4, 4), 1);
        Forms.append(x, "t");
        due.is("t", x.carryOut(), 1);
        due.is("the stack", x.count(2), 0b11110);
        Forms.append(x, "b");
        due.is("b", x.carryOut(), 1);
        due.is("the stack", x.count(2), 0b01110);
    }

    @Sentence(in = "Texts", says = "A digit is 0 to 9, a pressure 1 to 9.")
    static void aDigitIs0To9AndAPressure1To9(Due due) {
        for (char digit = '0'; digit <= '9'; digit++) {
            areWithoutFault(due, "w" + digit + "=0!1", "s" + digit + "!1");
        }
        for (char pressure = '1'; pressure <= '9'; pressure++) {
            areWithoutFault(due, "w0=0!" + pressure, "s0!" + pressure);
        }
        // / and : stand beside 0 and 9.
        faultsAre(due, "w^/=0!1", "w^:=0!1", "s^/!1", "s^:!1", "w0=0!^0", "w0=0!^/", "w0=0!^:", "s0!^0", "s0!^/", "s0!^:", "w^-1=0!1", "s^a!1");
    }

    @Sentence(in = "Texts", says = "A number is 0 to 999, without leading zeros.")
    static void aNumberIs0To999WithoutLeadingZeros(Due due) {
        for (int number = 0; number <= 999; number++) {
            areWithoutFault(due, "w0=" + number + "!1");
        }
        faultsAre(due, "w0=0^0!1", "w0=0^1!1", "w0=0^9!1", "w0=0^12!1", "w0=0^00!1", "w0=^-0!1", "w0=^+1!1", "w0=1^.!1", "w0=^/!1", "w0=^:!1",
            "w0=1^/!1", "w0=1^:!1", "w0=10^/!1", "w0=10^:!1");
        CarbonSheets x = Forms.withPad("w0=0!9;w0=10!9;w0=100!9;w0=909!9;w0=999!9");
        due.is("carryOut()", x.carryOut(), 5);
        int[] values = {0, 10, 100, 909, 999};
        for (int mark = 0; mark < 5; mark++) {
            due.is("the value of mark " + mark, x.ofMark(0, 0, mark, 0), values[mark]);
        }
    }

    @Sentence(in = "Texts", says = "The fault is the index of the first character that cannot stand at its place when the text is read from left to "
        + "right (also of a digit by which a number would be above 999);")
    static void theFaultIsTheFirstCharacterThatCannotStand(Due due) {
        faultsAre(due, "w0=100^0!1", "w0=999^0!1", "w0=999^9", "w0=100^0;;", "w0=999^99!x", "w0=123^4=", "t;w0=999^9", "t;b;^x;y;z", "w0=1!2;s3^3;s0!0");
        due.is("at the first place", Forms.withPad("~").fault(), 0);
        due.is("at the last place of 80", Forms.withPad("t;".repeat(39) + "t~").fault(), 79);
        due.is("a good end mends no fault", Forms.withPad("x;t").fault(), 0);
        CarbonSheets x = Forms.withPad("w0=999");
        due.is("before the digit", x.fault(), 6);
        x.put('9');
        due.is("at the digit", x.fault(), 6);
        due.is("the digit is on the pad", x.count(6), 7);
    }

    @Sentence(in = "Texts", says = "if there is none and the text ends too early (also if it is empty), it is the length of the text.")
    static void anEarlyEndIsAFaultAtTheLength(Due due) {
        CarbonSheets x = new CarbonSheets();
        due.is("the empty text", x.fault(), 0);
        String text = "w3=45!6;s7!8;t;b";
        List<Integer> whole = List.of(7, 12, 14, 16);
        for (int length = 1; length <= text.length(); length++) {
            x.put(text.charAt(length - 1));
            due.is("the first " + length + " of " + text, x.fault(), whole.contains(length) ? NONE : length);
        }
        x.wipe();
        due.is("the empty text again", x.fault(), 0);
    }

    @Sentence(in = "Promise 20", says = "Appends characters to the pad. They are given as a number: its lowest 8 bits are the last character, the next 8 "
        + "bits the one before, and so on;")
    static void p20TheLowest8BitsAreTheLastCharacter(Due due) {
        CarbonSheets x = new CarbonSheets();
        due.is("w9=8", x.put(0x77393d38L), 4);
        due.is("76!5", x.put(0x37362135L), 8);
        due.is("fault()", x.fault(), NONE);
        due.is("carryOut()", x.carryOut(), 1);
        due.is("the value", x.ofMark(0, 9, 0, 0), 876);
        due.is("the strength", x.ofMark(0, 9, 0, 1), 5);
        due.is("eight at once: w0=12!3;", x.put(0x77303d313221333bL), 8);
        due.is("the first one is w", x.fault(), 8);
        x.put('t');
        due.is("carryOut()", x.carryOut(), 2);
        due.is("the value", x.ofMark(0, 0, 0, 0), 12);
        due.sameAfter("put(), undone by wipe()", Forms::full, y -> y.put('t') + y.wipe());
    }

    @Sentence(in = "Promise 20", says = "8 bits that are 0 mean that there are no more characters, and everything above them has to be 0, too.")
    static void p20EightBitsOf0EndTheCharacters(Due due) {
        for (int size = 1; size <= 8; size++) {
            CarbonSheets x = new CarbonSheets();
            long characters = Forms.packed("t".repeat(size));
            due.is(size + " characters", x.put(characters), size);
            for (int bit = 8 * size + 8; bit < 64; bit++) {
                long withABit = characters | 1L << bit;
                due.is(size + " characters and bit " + bit, x.put(withABit), BAD_VALUE);
            }
        }
        due.refused("put() of t, 0, t", Forms::used, x -> x.put(0x740074L), BAD_VALUE);
        due.refused("put() of t, 0", Forms::used, x -> x.put(0x7400L), BAD_VALUE);
        due.refused("put() of t and the highest bit", Forms::used, x -> x.put(Long.MIN_VALUE | 't'), BAD_VALUE);
    }

    @Sentence(in = "Promise 20", says = "- `characters`: 1 to 8 characters")
    static void p20From1To8Characters(Due due) {
        String text = "w1=23!4;";
        for (int size = 1; size <= 8; size++) {
            CarbonSheets x = new CarbonSheets();
            due.is(size + " at once", x.put(Forms.packed(text.substring(0, size))), size);
            due.is("the fault of " + text.substring(0, size), x.fault(), size == 7 ? NONE : size);
        }
        due.is("none", new CarbonSheets().put(0), BAD_VALUE);
    }

    @Sentence(in = "Promise 20", says = "Returns the length of the pad then;")
    static void p20ReturnsTheLength1To80(Due due) {
        CarbonSheets x = new CarbonSheets();
        for (int length = 1; length <= 80; length++) {
            due.is("character " + length, x.put('t'), length);
        }
        x.wipe();
        for (int length = 8; length <= 80; length += 8) {
            due.is("eight up to " + length, x.put(Forms.packed("tttttttt")), length);
        }
        x.wipe();
        due.is("after wipe()", x.put('t'), 1);
        due.is("no change is recorded", x.count(7), 0);
    }

    @Sentence(in = "Promise 20", says = "BAD_VALUE if there is no character, a code is not 33 to 126,")
    static void p20NoCharacterOrABadCode(Due due) {
        due.refused("put(0)", Forms::used, x -> x.put(0), BAD_VALUE);
        due.refused("put(0) to a full pad", () -> Forms.padOf(80), x -> x.put(0), BAD_VALUE);
        due.refused("put(-1)", Forms::used, x -> x.put(-1), BAD_VALUE);
        due.refused("put(Long.MIN_VALUE)", Forms::used, x -> x.put(Long.MIN_VALUE), BAD_VALUE);
        due.refused("put(Long.MAX_VALUE)", Forms::used, x -> x.put(Long.MAX_VALUE), BAD_VALUE);
        for (int place = 0; place < 8; place++) {
            for (int code = 1; code < 256; code++) {
                long others = Forms.packed("t".repeat(8)) & ~(255L << 8 * place);
                boolean isGood = code >= 33 && code <= 126;
                due.is("code " + code + " at place " + place, new CarbonSheets().put(others | (long) code << 8 * place), isGood ? 8 : BAD_VALUE);
            }
        }
        for (int code : new int[] {1, 32, 127, 128, 255}) {
            due.refused("put(" + code + ")", Forms::used, x -> x.put(code), BAD_VALUE);
            due.refused("put(" + code + ") before seven", Forms::used, x -> x.put((long) code << 56 | Forms.packed("ttttttt")), BAD_VALUE);
        }
        due.is("put(33)", new CarbonSheets().put(33), 1);
        due.is("put(126)", new CarbonSheets().put(126), 1);
    }

    @Sentence(in = "Promise 20", says = "or a bit above 8 bits that are 0 is not 0;")
    static void p20ABitAbove8BitsOf0(Due due) {
        for (int zero = 0; zero < 7; zero++) {
            for (int bit = 8 * zero + 8; bit < 64; bit += 5) {
                long characters = Forms.packed("t".repeat(zero)) | 1L << bit;
                due.refused("put(" + characters + ")", Forms::used, x -> x.put(characters), BAD_VALUE);
            }
        }
        due.refused("eight without the last one", Forms::used, x -> x.put(Forms.packed("tttttttt") & ~255L), BAD_VALUE);
        due.refused("eight without the second one", Forms::used, x -> x.put(Forms.packed("tttttttt") & ~(255L << 48)), BAD_VALUE);
        due.is("eight without the first one are seven", new CarbonSheets().put(Forms.packed("tttttttt") & ~(255L << 56)), 7);
    }

    @Sentence(in = "Promise 20", says = "TOO_MANY if the pad would be longer than 80.")
    static void p20MoreThan80CharactersAreTheLastError(Due due) {
        for (int size = 1; size <= 8; size++) {
            long characters = Forms.packed(";".repeat(size));
            int room = 80 - size;
            due.is(size + " to " + room, Forms.padOf(room).put(characters), 80);
            due.refused(size + " to " + (room + 1), () -> Forms.padOf(room + 1), x -> x.put(characters), TOO_MANY);
            due.refused(size + " to 80", () -> Forms.padOf(80), x -> x.put(characters), TOO_MANY);
        }
        due.refused("a bad one to a full pad", () -> Forms.padOf(80), x -> x.put(' '), BAD_VALUE);
        due.refused("eight with a bad one to 79", () -> Forms.padOf(79), x -> x.put(Forms.packed("ttttttt ")), BAD_VALUE);
    }

    @Sentence(in = "Promise 21", says = "Empties the pad, and returns the length that it had.")
    static void p21EmptiesThePadAndReturns0To80(Due due) {
        for (int length : new int[] {0, 1, 8, 79, 80}) {
            CarbonSheets x = Forms.padOf(length);
            due.is("wipe() of " + length, x.wipe(), length);
            due.is("wipe() again", x.wipe(), 0);
            due.is("count(6)", x.count(6), 0);
            due.is("fault()", x.fault(), 0);
            due.is("no change is recorded", x.count(7), 0);
            due.is("there is room for 80 again", x.put(Forms.packed("b")), 1);
            due.is("nothing of before is left", x.carryOut(), 1);
        }
        due.sameAfter("wipe() of an empty pad", Forms::full, CarbonSheets::wipe);
        due.sameAfter("wipe() of what was put", Forms::full, x -> x.put('b') + x.put('x') + x.wipe());
    }

    @Sentence(in = "Promise 22", says = "Returns the fault of the pad, NONE if there is none.")
    static void p22ReturnsTheFault0To80OrNone(Due due) {
        due.is("the empty pad", new CarbonSheets().fault(), 0);
        due.is("a good text", Forms.withPad("t").fault(), NONE);
        due.is("a bad first character", Forms.withPad("x").fault(), 0);
        due.is("an early end", Forms.withPad("t;").fault(), 2);
        due.is("a good text of 79", Forms.withPad("t;".repeat(39) + "t").fault(), NONE);
        due.is("an early end at 80", Forms.withPad("t;".repeat(40)).fault(), 80);
        due.is("orders that would not be possible are no fault", Forms.withPad("t;t;t;t;t;t").fault(), NONE);
        due.sameAfter("fault() of a good text", Forms::used, CarbonSheets::fault);
        due.sameAfter("fault() of a bad text", () -> Forms.withPad("t;x"), CarbonSheets::fault);
        due.sameAfter("fault() of an early end", () -> Forms.withPad("t;w0=1"), CarbonSheets::fault);
    }

    @Sentence(in = "Promise 23", says = "Carries the orders of the pad out, one after the other, up to the first one that returns an error, and empties "
        + "the pad.")
    static void p23UpToTheFirstErrorAndThePadIsEmpty(Due due) {
        CarbonSheets x = Forms.full();
        Forms.append(x, "w3=1!9;w4=1!1;w5=1!1;t");
        due.is("the second one is TOO_MANY", x.carryOut(), 1);
        due.is("the first one was carried out", x.reading(4, 3, 3), 1);
        due.is("the third one was not", x.reading(0, 5, 3), 0);
        due.is("nor the fourth", x.count(2), 31);
        due.is("the pad is empty", x.count(6), 0);
        due.is("and has the fault of an empty one", x.fault(), 0);
        CarbonSheets y = Forms.withPad("t;b;t;b;w0=7!1;t;s0!1;w0=1!1;t");
        due.is("a stroke without a stack is NOT_POSSIBLE", y.carryOut(), 6);
        due.is("the last sheet was written on", y.ofMark(2, 0, 0, 0), 7);
        due.is("the pad is empty", y.count(6), 0);
        CarbonSheets full = Forms.withPad("w0=1!1;".repeat(9) + "t");
        due.is("a ninth mark is TOO_MANY", full.carryOut(), 8);
        due.is("8 marks", full.reading(0, 0, 3), 8);
        due.is("the stack", full.count(2), 31);
    }

    @Sentence(in = "Promise 23", says = "This is a change (one, with all of them; also if none is carried out).")
    static void p23IsOneChangeAlsoIfNoneIsCarriedOut(Due due) {
        carryOutIsAChange(due, "w0=1!9;s0!9;t;b;w9=999!9");
        carryOutIsAChange(due, "t");
        carryOutIsAChange(due, "t;t;t;t;t;t;t");
        CarbonSheets x = Forms.apart();
        x.undo();
        x.tear(1);
        int undoable = x.count(7);
        for (String text : new String[] {"t", "b", "w0=1!1", "s0!1"}) {
            Forms.append(x, text);
            due.is("none of " + text, x.carryOut(), 0);
            due.is("the pad is empty", x.count(6), 0);
            undoable = Math.min(6, undoable + 1);
            due.is("it is a change", x.count(7), undoable);
        }
        due.is("undo() of the last one", x.undo(), 5);
        due.is("without a stack", x.count(2), 0);
    }

    private static void carryOutIsAChange(Due due, String text) {
        due.isChange("carryOut() of " + text, () -> {
            CarbonSheets x = Forms.withShortHistory();
            x.wipe();
            return x;
        }, x -> {
            Forms.append(x, text);
            return x.carryOut();
        });
    }

    @Sentence(in = "Promise 23", says = "Returns how many orders were carried out;")
    static void p23ReturnsHowManyOrdersWereCarriedOut(Due due) {
        due.is("one", Forms.withPad("s0!1").carryOut(), 1);
        due.is("all of 16 that fill 79 characters", Forms.withPad("s0!1;".repeat(15) + "s0!1").carryOut(), 16);
        due.is("4 and 15 that fill 80 characters", Forms.withPad("t;b;t;b;" + "s0!1;".repeat(12) + "w0=1!1;s0!9").carryOut(), 18);
        due.is("5 of 40", Forms.withPad("b;".repeat(39) + "b").carryOut(), 5);
        CarbonSheets x = Forms.apart();
        x.put('b');
        due.is("none of 1", x.carryOut(), 0);
    }

    @Sentence(in = "Promise 23", says = "BAD_TEXT if the pad has a fault (then it stays).")
    static void p23AFaultIsBadTextAndThePadStays(Due due) {
        for (String text : new String[] {"", "t;", "t;x", "w0=1", "w0=1000!1", "s0!0", "tt"}) {
            due.refused("carryOut() of '" + text + "'", () -> Forms.withPad(text), CarbonSheets::carryOut, BAD_TEXT);
        }
        CarbonSheets x = Forms.withPad("t;w0=99");
        due.is("it ends too early", x.carryOut(), BAD_TEXT);
        due.is("it stays", x.count(6), 7);
        due.is("no order was carried out", x.count(2), 31);
        due.is("no change is recorded", x.count(7), 0);
        Forms.append(x, "!9");
        due.is("with its end", x.carryOut(), 2);
        due.is("the value", x.ofMark(1, 0, 0, 0), 99);
    }
}
