/** The ordinary cases of promises 20 to 23. */
public final class TextsTest {
    private static final Due DUE = new Due();

    public static void main(String[] args) {
        put();
        wipe();
        fault();
        carryOut();
        carryOutUpToAnError();
        carryOutIsOneChange();
        DUE.end();
    }

    private static void put() {
        CarbonSheets x = new CarbonSheets();
        DUE.is("one character", x.put(Forms.packed("t")), 1);
        DUE.is("the lowest code", x.put(33), 2);
        DUE.is("the highest code", x.put(126), 3);
        DUE.is("eight characters", x.put(Forms.packed(";s3!9;bb")), 11);
        DUE.is("eight of the highest code", x.put(Forms.packed("~~~~~~~~")), 19);
        DUE.is("count(6)", x.count(6), 19);
        DUE.is("count(7)", x.count(7), 0);
        CarbonSheets y = new CarbonSheets();
        y.put(Forms.packed("s3!"));
        y.put(Forms.packed("9;b"));
        DUE.is("the characters are in their order", y.fault(), CarbonSheets.NONE);
    }

    private static void wipe() {
        CarbonSheets x = Forms.withPad("w1=2!3;t;");
        DUE.is("wipe()", x.wipe(), 9);
        DUE.is("wipe() again", x.wipe(), 0);
        DUE.is("count(6)", x.count(6), 0);
        DUE.is("count(7)", x.count(7), 0);
        DUE.is("put() after it", x.put('b'), 1);
        DUE.is("fault()", x.fault(), CarbonSheets.NONE);
    }

    private static void fault() {
        String[] good = {"t", "b", "s0!1", "s9!9", "w0=0!1", "w9=999!9", "w5=10!5", "w5=100!5", "w5=99!5",
            "t;b;t;b;t;b", "w1=2!3;s4!5;t;b;w6=7!8"};
        for (String text : good) {
            faultIs(text, CarbonSheets.NONE);
        }
        String[] early = {"", "w", "w1", "w1=", "w1=0", "w1=12", "w1=999", "w1=9!", "s", "s1", "s1!", "t;", "w1=2!3;", "t;b;s"};
        for (String text : early) {
            faultIs(text, text.length());
        }
        // The sign ^ is not in the text: it tells that the fault is what comes behind it.
        String[] bad = {"^x", "^T", "^;", "^1", "t^t", "b^1", "t;^;", "t;^x", "w^w", "w^=", "w1^!", "w1^1", "w1=^!",
            "w1=^-", "w1=0^0", "w1=0^5", "w1=999^9", "w1=100^0!5", "w1=12^;", "w1=12!^0",
            "w1=12!^!", "w1=12!5^5", "w1=12!5^!", "s^!", "s1^=", "s1^1", "s1!^0", "s1!^:", "s1!^;", "s1!5^t", "s^:", "s^/",
            "w1=^/", "w1=^:", "w1=1^/", "w1=1^:", "w1=1^=", "w1=2!3;t;b;^W"};
        for (String text : bad) {
            faultIs(text.replace("^", ""), text.indexOf('^'));
        }
        faultIs("w1=2!x3;y", 5);
    }

    private static void faultIs(String text, int want) {
        CarbonSheets x = Forms.withPad(text);
        DUE.is("the length of " + text, x.count(6), text.length());
        DUE.is("fault() of " + text, x.fault(), want);
        if (want != CarbonSheets.NONE) {
            DUE.is("carryOut() of " + text, x.carryOut(), CarbonSheets.BAD_TEXT);
        }
    }

    private static void carryOut() {
        CarbonSheets x = Forms.withPad("w3=987!9;w4=0!1;s3!7;t;b");
        DUE.is("carryOut()", x.carryOut(), 5);
        DUE.is("the pad is empty", x.count(6), 0);
        DUE.is("carryOut() of an empty pad", x.carryOut(), CarbonSheets.BAD_TEXT);
        DUE.is("the value", x.ofMark(0, 3, 0, 0), 987);
        DUE.is("the pressure", x.ofMark(0, 3, 0, 1), 9);
        DUE.is("the stroke was too weak", x.ofMark(0, 3, 0, 2), 0);
        DUE.is("the other field's value", x.ofMark(0, 4, 0, 0), 0);
        DUE.is("the other field's strength", x.ofMark(0, 4, 0, 1), 1);
        DUE.is("the stack", x.count(2), 14);
        DUE.is("the carbon", x.ofSheet(0, 1), 58);
        CarbonSheets y = Forms.withPad("w2=7!5;s2!5");
        DUE.is("a stroke", y.carryOut(), 2);
        DUE.is("it struck", y.ofMark(0, 2, 0, 2), 1);
        DUE.is("all", y.ofSheet(3, 4), 1);
        CarbonSheets top = Forms.withPad("t");
        DUE.is("t", top.carryOut(), 1);
        DUE.is("t tears the top one", top.count(2), 30);
        CarbonSheets low = Forms.withPad("b;b");
        DUE.is("b;b", low.carryOut(), 2);
        DUE.is("b tears the lowest one", low.count(2), 7);
        CarbonSheets z = Forms.withPad("t;t;t;t;t");
        DUE.is("all are torn", z.carryOut(), 5);
        DUE.is("nothing was amended apart", z.ofSheet(0, 7), 0);
    }

    private static void carryOutUpToAnError() {
        CarbonSheets x = Forms.withPad("t;t;b;t;t;b;w1=1!1");
        DUE.is("the sixth is not possible", x.carryOut(), 5);
        DUE.is("the pad is empty", x.count(6), 0);
        DUE.is("count(7)", x.count(7), 1);
        for (String text : new String[] {"t", "b", "w1=1!1", "s1!1"}) {
            Forms.append(x, text);
            DUE.is("none of " + text, x.carryOut(), 0);
            DUE.is("the pad is empty", x.count(6), 0);
        }
        DUE.is("a change all the same", x.count(7), 5);
        CarbonSheets y = Forms.full();
        Forms.append(y, "w3=1!1;w4=1!1;w5=1!1");
        DUE.is("a full field", y.carryOut(), 1);
        DUE.is("the first one was carried out", y.reading(0, 3, 3), 1);
        DUE.is("the one behind the error was not", y.reading(0, 5, 3), 0);
    }

    private static void carryOutIsOneChange() {
        CarbonSheets x = new CarbonSheets();
        x.write(0, 1, 9);
        Forms.append(x, "w0=2!9;t;s0!9;b");
        DUE.is("carryOut()", x.carryOut(), 4);
        DUE.is("count(7)", x.count(7), 2);
        Forms.append(x, "b");
        DUE.is("undo()", x.undo(), 1);
        DUE.is("the stack", x.count(2), 31);
        DUE.is("the marks", x.reading(0, 0, 3), 1);
        DUE.is("they are not struck", x.ofSheet(1, 4), 0);
        DUE.is("the pad is not brought back", x.count(6), 1);
        DUE.is("the carbon is", x.ofSheet(0, 1), 59);
    }
}
