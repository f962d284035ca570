import java.util.ArrayList;
import java.util.List;
import java.util.function.Supplier;
import java.util.function.ToIntFunction;

/** All that can be asked of a form, and the steps that bring to light what no question tells: history, slots, pad. */
final class Answers {
    private record Question(String call, ToIntFunction<CarbonSheets> asked) { }

    // An object answers for 512 calls only, so the questions, asked twice, are shared out among several objects.
    private static final int AN_OBJECT = 200;
    private static final int MOST_TOLD = 5;
    private static final List<List<Question>> QUESTIONS = sharedOut(questions());
    private static final List<Question> STEPS = steps();

    private Answers() { }

    /** Tells the first few answers that a call changes: of one object before and after it, and of two without and with it. */
    static List<String> changedBy(Supplier<CarbonSheets> maker, ToIntFunction<CarbonSheets> call) {
        List<String> changed = new ArrayList<>();
        for (List<Question> questions : QUESTIONS) {
            CarbonSheets one = maker.get();
            int[] before = ask(one, questions);
            call.applyAsInt(one);
            compare("", questions, before, ask(one, questions), changed);
            for (Question step : STEPS) {
                CarbonSheets without = maker.get();
                CarbonSheets with = maker.get();
                call.applyAsInt(with);
                List<Question> itself = List.of(step);
                compare("", itself, ask(without, itself), ask(with, itself), changed);
                compare(step.call + ", then ", questions, ask(without, questions), ask(with, questions), changed);
            }
        }
        return changed;
    }

    private static int[] ask(CarbonSheets x, List<Question> questions) {
        return questions.stream().mapToInt(question -> question.asked.applyAsInt(x)).toArray();
    }

    private static void compare(String after, List<Question> questions, int[] want, int[] got, List<String> changed) {
        for (int i = 0; i < want.length && changed.size() < MOST_TOLD; i++) {
            if (got[i] != want[i]) {
                changed.add(after + questions.get(i).call + " answered " + got[i] + ", due is " + want[i]);
            }
        }
    }

    private static List<List<Question>> sharedOut(List<Question> all) {
        List<List<Question>> shares = new ArrayList<>();
        for (int from = 0; from < all.size(); from += AN_OBJECT) {
            shares.add(all.subList(from, Math.min(from + AN_OBJECT, all.size())));
        }
        return shares;
    }

    private static List<Question> questions() {
        List<Question> all = new ArrayList<>();
        all.add(new Question("fault()", CarbonSheets::fault));
        for (int i = 0; i < 10; i++) {
            int number = i;
            all.add(new Question("count(" + i + ")", x -> x.count(number)));
            all.add(new Question("lasts(" + i + ")", x -> x.lasts(number)));
        }
        for (int sheet = 0; sheet < 5; sheet++) {
            addOfSheet(all, sheet);
        }
        for (int field = 0; field < 10; field++) {
            addOfField(all, field);
        }
        return all;
    }

    private static void addOfSheet(List<Question> all, int sheet) {
        all.add(new Question("enoughFor(" + sheet + ")", x -> x.enoughFor(sheet)));
        for (int i = 0; i < 8; i++) {
            int what = i;
            all.add(new Question("ofSheet(" + sheet + ", " + what + ")", x -> x.ofSheet(sheet, what)));
        }
        for (int i = 0; i < 5; i++) {
            int other = i;
            all.add(new Question("differ(" + sheet + ", " + other + ")", x -> x.differ(sheet, other)));
        }
        for (int i = 0; i < 10 * 5; i++) {
            int field = i / 5;
            int what = i % 5;
            all.add(new Question("reading(" + sheet + ", " + field + ", " + what + ")", x -> x.reading(sheet, field, what)));
        }
        for (int i = 0; i < 10 * 9 * 3; i++) {
            int field = i / 27;
            int mark = i / 3 % 9;
            int what = i % 3;
            all.add(new Question("ofMark(" + sheet + ", " + field + ", " + mark + ", " + what + ")",
                x -> x.ofMark(sheet, field, mark, what)));
        }
    }

    private static void addOfField(List<Question> all, int field) {
        all.add(new Question("strikeFor(" + field + ")", x -> x.strikeFor(field)));
        for (int i = 0; i < 5; i++) {
            int what = i;
            all.add(new Question("together(" + field + ", " + what + ")", x -> x.together(field, what)));
        }
        for (int i = 1; i <= 9; i++) {
            int pressure = i;
            all.add(new Question("ifWritten(" + field + ", 500, " + pressure + ")", x -> x.ifWritten(field, 500, pressure)));
        }
    }

    private static List<Question> steps() {
        List<Question> all = new ArrayList<>();
        for (int i = 1; i <= 6; i++) {
            int times = i;
            all.add(new Question("undo(), " + times + " times", x -> {
                for (int done = 1; done < times; done++) {
                    x.undo();
                }
                return x.undo();
            }));
        }
        for (int i = 0; i < 2; i++) {
            int slot = i;
            all.add(new Question("restore(" + slot + ")", x -> x.restore(slot)));
        }
        // What the pad holds is told only by its orders, so each way is tried to end a text that was begun.
        for (String end : new String[] {"", ";t", "t", "0=0!1", "=0!1", "0!1", "!1", "1"}) {
            all.add(new Question("the pad with '" + end + "', carryOut()", x -> {
                Forms.append(x, end);
                return x.carryOut();
            }));
        }
        return all;
    }
}
