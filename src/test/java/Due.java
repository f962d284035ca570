import java.util.ArrayList;
import java.util.List;
import java.util.function.Supplier;
import java.util.function.ToIntFunction;

/** Counts the calls whose answers are not due, and ends a test. */
final class Due {
    /** A question with its name. */
    private record Probe(String call, ToIntFunction<CarbonSheets> asked) { }

    // An object answers for 512 calls only, so the probes are shared out among several pairs of objects.
    private static final int PROBES_AN_OBJECT = 400;

    private int wrong = 0;

    void is(String call, long got, long want) {
        if (got != want) {
            wrong++;
            System.out.println(call + " answered " + got + ", due is " + want);
        }
    }

    /** Checks that a call returns an error and leaves everything that can be asked as it was. */
    void refused(String call, Supplier<CarbonSheets> maker, ToIntFunction<CarbonSheets> refusedCall, int want) {
        is(call, refusedCall.applyAsInt(maker.get()), want);
        sameAfter(call, maker, refusedCall);
    }

    /** Checks that a call leaves everything that can be asked as it was. */
    void sameAfter(String call, Supplier<CarbonSheets> maker, ToIntFunction<CarbonSheets> asked) {
        for (int undone = 0; undone < 2; undone++) {
            List<Probe> probes = probes();
            for (int from = 0; from < probes.size(); from += PROBES_AN_OBJECT) {
                CarbonSheets touched = maker.get();
                CarbonSheets untouched = maker.get();
                asked.applyAsInt(touched);
                for (int i = 0; i < undone; i++) {
                    is(call + ", then undo()", touched.undo(), untouched.undo());
                }
                for (Probe probe : probes.subList(from, Math.min(from + PROBES_AN_OBJECT, probes.size()))) {
                    is(call + ", then " + probe.call, probe.asked.applyAsInt(touched), probe.asked.applyAsInt(untouched));
                }
                is(call + ", then restore(0)", touched.restore(0), untouched.restore(0));
                is(call + ", then restore(1)", touched.restore(1), untouched.restore(1));
                is(call + ", then carryOut()", touched.carryOut(), untouched.carryOut());
            }
        }
    }

    private static List<Probe> probes() {
        List<Probe> probes = new ArrayList<>();
        for (int i = 0; i < 10; i++) {
            int what = i;
            probes.add(new Probe("count(" + what + ")", x -> x.count(what)));
        }
        for (int i = 0; i < 50; i++) {
            int sheet = i / 10;
            int field = i % 10;
            for (int j = 0; j < 5; j++) {
                int what = j;
                probes.add(new Probe("reading(" + sheet + ", " + field + ", " + what + ")", x -> x.reading(sheet, field, what)));
            }
            for (int j = 0; j < 24; j++) {
                int mark = j / 3;
                int what = j % 3;
                probes.add(new Probe("ofMark(" + sheet + ", " + field + ", " + mark + ", " + what + ")",
                    x -> x.ofMark(sheet, field, mark, what)));
            }
        }
        for (int i = 0; i < 40; i++) {
            int sheet = i / 8;
            int what = i % 8;
            probes.add(new Probe("ofSheet(" + sheet + ", " + what + ")", x -> x.ofSheet(sheet, what)));
        }
        probes.add(new Probe("fault()", CarbonSheets::fault));
        return probes;
    }

    void end() {
        System.out.println(wrong == 0 ? "all answers are as due" : wrong + " answers are not as due");
        if (wrong != 0) {
            System.exit(1);
        }
    }
}
