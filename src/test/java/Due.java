import java.util.function.Supplier;
import java.util.function.ToIntFunction;

/** Counts the calls whose answers are not due, and ends a test. */
final class Due {
    /** A call with one of its arguments left open. */
    interface OpenCall {
        int on(CarbonSheets x, int number);
    }

    private static final int MOST_STATES = 6;

    private int wrong = 0;
    private String about = "";

    /** Tells what the calls that come now are about. */
    void about(String what) {
        about = what + ": ";
    }

    void is(String call, long got, long want) {
        if (got != want) {
            fails(call + " answered " + got + ", due is " + want);
        }
    }

    void fails(String complaint) {
        wrong++;
        System.out.println(about + complaint);
    }

    /** Checks that a call returns an error and leaves everything that can be asked as it was. */
    void refused(String call, Supplier<CarbonSheets> maker, ToIntFunction<CarbonSheets> refusedCall, int want) {
        is(call, refusedCall.applyAsInt(maker.get()), want);
        sameAfter(call, maker, refusedCall);
    }

    /** Checks that a call is refused with each number outside of a range in the place of its sign ?. */
    void refusedOutside(String call, int least, int most, Supplier<CarbonSheets> maker, OpenCall refusedCall, int want) {
        // A narrower type would wrap some of these into the range.
        int[] far = {most + 32, least + 256, least - 256, most + 65536, least - 65536,
            Integer.MIN_VALUE, Integer.MIN_VALUE + most, Integer.MAX_VALUE};
        refused(told(call, least - 1), maker, x -> refusedCall.on(x, least - 1), want);
        refused(told(call, most + 1), maker, x -> refusedCall.on(x, most + 1), want);
        for (int number : far) {
            if (number < least || number > most) {
                refused(told(call, number), maker, x -> refusedCall.on(x, number), want);
            }
        }
    }

    private static String told(String call, int number) {
        return call.replace("?", Integer.toString(number));
    }

    /** Checks that a call leaves everything that can be asked as it was. */
    void sameAfter(String call, Supplier<CarbonSheets> maker, ToIntFunction<CarbonSheets> asked) {
        for (String answer : Answers.changedBy(maker, asked)) {
            fails(call + ", then " + answer);
        }
    }

    /** Checks that a call is a change, on a form whose history is not full: one that undo() takes back whole. */
    void isChange(String call, Supplier<CarbonSheets> maker, ToIntFunction<CarbonSheets> change) {
        CarbonSheets x = maker.get();
        int undoable = x.count(7);
        is(call + ": the history has room", undoable < MOST_STATES ? 1 : 0, 1);
        is(call + ": the errors", Math.min(0, change.applyAsInt(x)), 0);
        is(call + ", then count(7)", x.count(7), undoable + 1);
        sameAfter(call + ", then undo()", maker, y -> {
            change.applyAsInt(y);
            return y.undo();
        });
    }

    void end() {
        System.out.println(wrong == 0 ? "all answers are as due" : wrong + " answers are not as due");
        if (wrong != 0) {
            System.exit(1);
        }
    }
}
