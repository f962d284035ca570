import java.util.ArrayDeque;
import java.util.ArrayList;
import java.util.Deque;
import java.util.List;
import java.util.Map;
import java.util.TreeMap;
import java.util.TreeSet;
import java.util.regex.Matcher;
import java.util.regex.Pattern;

/** The document once more, as plainly as it can be told: lists, whole copies, and questions answered by trying. */
final class PlainForm {
    private static final String ORDER = "(?:w[0-9]=(?:0|[1-9][0-9]{0,2})![1-9]|s[0-9]![1-9]|t|b)";
    private static final Pattern TEXT = Pattern.compile(ORDER + "(?:;" + ORDER + ")*");

    private record Mark(int value, int strength, boolean struck) { }

    private static final class Sheet {
        int thickness = 1;
        int uses = 60;
        final TreeSet<Integer> amended = new TreeSet<>();
        final List<List<Mark>> fields = new ArrayList<>();
    }

    private static final class State {
        final int[] settings = {2, 1};
        final List<Integer> stack = new ArrayList<>(List.of(0, 1, 2, 3, 4));
        final List<Sheet> sheets = new ArrayList<>();
    }

    private State now = fresh();
    private final Deque<State> history = new ArrayDeque<>();
    private final State[] slots = new State[2];
    private String pad = "";

    private static State fresh() {
        State state = new State();
        for (int i = 0; i < 5; i++) {
            Sheet sheet = new Sheet();
            for (int j = 0; j < 10; j++) {
                sheet.fields.add(new ArrayList<>());
            }
            state.sheets.add(sheet);
        }
        return state;
    }

    private static State copy(State from) {
        State to = new State();
        to.settings[0] = from.settings[0];
        to.settings[1] = from.settings[1];
        to.stack.clear();
        to.stack.addAll(from.stack);
        for (Sheet sheet : from.sheets) {
            Sheet other = new Sheet();
            other.thickness = sheet.thickness;
            other.uses = sheet.uses;
            other.amended.addAll(sheet.amended);
            for (List<Mark> marks : sheet.fields) {
                other.fields.add(new ArrayList<>(marks));
            }
            to.sheets.add(other);
        }
        return to;
    }

    private void keep(State before) {
        history.addLast(before);
        if (history.size() > 6) {
            history.removeFirst();
        }
    }

    private static boolean in(int number, int least, int most) {
        return least <= number && number <= most;
    }

    private static int set(Iterable<Integer> members) {
        int set = 0;
        for (int member : members) {
            set |= 1 << member;
        }
        return set;
    }

    int set(int setting, int value) {
        boolean good = setting == 0 && in(value, 1, 9) || setting == 1 && in(value, 0, 5);
        if (!good) {
            return -2;
        }
        keep(copy(now));
        int before = now.settings[setting];
        now.settings[setting] = value;
        return before;
    }

    int thickness(int sheet, int thickness) {
        if (!in(sheet, 0, 4)) {
            return -1;
        }
        if (!in(thickness, 0, 4)) {
            return -2;
        }
        keep(copy(now));
        int before = now.sheets.get(sheet).thickness;
        now.sheets.get(sheet).thickness = thickness;
        return before;
    }

    int carbon(int sheet, int uses) {
        if (!in(sheet, 0, 4)) {
            return -1;
        }
        if (!in(uses, 0, 300)) {
            return -2;
        }
        if (!now.stack.contains(sheet)) {
            return -5;
        }
        keep(copy(now));
        int before = now.sheets.get(sheet).uses;
        now.sheets.get(sheet).uses = uses;
        return before;
    }

    /** Presses, uses the carbons up, and tells the strengths by sheet, from the top. */
    private static Map<Integer, Integer> press(State state, int pressure) {
        Map<Integer, Integer> comes = new TreeMap<>();
        int strength = pressure;
        for (int i = 0; i < state.stack.size(); i++) {
            if (i > 0) {
                Sheet above = state.sheets.get(state.stack.get(i - 1));
                strength -= above.thickness;
                if (strength <= 0 || above.uses == 0) {
                    break;
                }
                above.uses--;
            }
            comes.put(state.stack.get(i), strength);
        }
        return comes;
    }

    private static int writeTo(State state, int field, int value, int pressure) {
        if (!in(field, 0, 9)) {
            return -1;
        }
        if (!in(value, 0, 999) || !in(pressure, 1, 9)) {
            return -2;
        }
        if (state.stack.isEmpty()) {
            return -5;
        }
        for (int sheet : press(copy(state), pressure).keySet()) {
            if (state.sheets.get(sheet).fields.get(field).size() == 8) {
                return -4;
            }
        }
        Map<Integer, Integer> comes = press(state, pressure);
        comes.forEach((sheet, strength) -> state.sheets.get(sheet).fields.get(field).add(new Mark(value, strength, false)));
        return comes.size();
    }

    private static int strikeUpTo(List<Mark> marks, int strength) {
        int struck = 0;
        for (int i = 0; i < marks.size(); i++) {
            Mark mark = marks.get(i);
            if (!mark.struck && mark.strength <= strength) {
                marks.set(i, new Mark(mark.value, mark.strength, true));
                struck++;
            }
        }
        return struck;
    }

    private static int strikeOn(State state, int field, int pressure) {
        if (!in(field, 0, 9)) {
            return -1;
        }
        if (!in(pressure, 1, 9)) {
            return -2;
        }
        if (state.stack.isEmpty()) {
            return -5;
        }
        int struck = 0;
        for (Map.Entry<Integer, Integer> come : press(state, pressure).entrySet()) {
            struck += strikeUpTo(state.sheets.get(come.getKey()).fields.get(field), come.getValue());
        }
        return struck;
    }

    private static int tearFrom(State state, int side) {
        if (!in(side, 0, 1)) {
            return -2;
        }
        if (state.stack.isEmpty()) {
            return -5;
        }
        return state.stack.remove(side == 0 ? 0 : state.stack.size() - 1);
    }

    private int changed(State before, int answer) {
        if (answer >= 0) {
            keep(before);
        }
        return answer;
    }

    int write(int field, int value, int pressure) {
        return changed(copy(now), writeTo(now, field, value, pressure));
    }

    int strike(int field, int pressure) {
        return changed(copy(now), strikeOn(now, field, pressure));
    }

    int tear(int side) {
        return changed(copy(now), tearFrom(now, side));
    }

    int paint(int sheet, int field) {
        if (!in(sheet, 0, 4) || !in(field, 0, 9)) {
            return -1;
        }
        boolean stacked = now.stack.contains(sheet);
        if (stacked && now.stack.get(0) != sheet) {
            return -5;
        }
        keep(copy(now));
        if (!stacked) {
            now.sheets.get(sheet).amended.add(field);
        }
        return strikeUpTo(now.sheets.get(sheet).fields.get(field), 9);
    }

    int amend(int sheet, int field, int value, int pressure) {
        if (!in(sheet, 0, 4) || !in(field, 0, 9)) {
            return -1;
        }
        if (!in(value, 0, 999) || !in(pressure, 1, 9)) {
            return -2;
        }
        if (now.stack.contains(sheet)) {
            return -5;
        }
        if (now.sheets.get(sheet).fields.get(field).size() == 8) {
            return -4;
        }
        keep(copy(now));
        now.sheets.get(sheet).amended.add(field);
        now.sheets.get(sheet).fields.get(field).add(new Mark(value, pressure, false));
        return now.sheets.get(sheet).fields.get(field).size();
    }

    private static List<Mark> readable(State state, int sheet, int field) {
        List<Mark> readable = new ArrayList<>();
        for (Mark mark : state.sheets.get(sheet).fields.get(field)) {
            if (!mark.struck && mark.strength >= state.settings[0]) {
                readable.add(mark);
            }
        }
        return readable;
    }

    private static int kind(State state, int sheet, int field) {
        List<Mark> readable = readable(state, sheet, field);
        if (readable.isEmpty()) {
            return 0;
        }
        Mark last = readable.get(readable.size() - 1);
        boolean unclear = readable.stream()
            .anyMatch(mark -> mark.value != last.value && mark.strength - last.strength > state.settings[1]);
        return unclear ? 2 : 1;
    }

    int ofSheet(int sheet, int what) {
        if (!in(sheet, 0, 4)) {
            return -1;
        }
        if (!in(what, 0, 7)) {
            return -2;
        }
        Sheet of = now.sheets.get(sheet);
        List<Mark> marks = new ArrayList<>();
        of.fields.forEach(marks::addAll);
        int[] kinds = new int[3];
        for (int field = 0; field < 10; field++) {
            kinds[kind(now, sheet, field)] |= 1 << field;
        }
        int struck = (int) marks.stream().filter(mark -> mark.struck).count();
        int apart = now.stack.contains(sheet) ? 0 : 1;
        return new int[] {of.thickness, of.uses, apart, marks.size(), struck, kinds[1], kinds[2], set(of.amended)}[what];
    }

    int reading(int sheet, int field, int what) {
        if (!in(sheet, 0, 4) || !in(field, 0, 9)) {
            return -1;
        }
        if (!in(what, 0, 4)) {
            return -2;
        }
        List<Mark> readable = readable(now, sheet, field);
        Mark last = readable.isEmpty() ? new Mark(-6, -6, false) : readable.get(readable.size() - 1);
        int all = now.sheets.get(sheet).fields.get(field).size();
        return new int[] {kind(now, sheet, field), last.value, last.strength, all, readable.size()}[what];
    }

    int ofMark(int sheet, int field, int mark, int what) {
        if (!in(sheet, 0, 4) || !in(field, 0, 9) || !in(mark, 0, now.sheets.get(sheet).fields.get(field).size() - 1)) {
            return -1;
        }
        if (!in(what, 0, 2)) {
            return -2;
        }
        Mark of = now.sheets.get(sheet).fields.get(field).get(mark);
        return new int[] {of.value, of.strength, of.struck ? 1 : 0}[what];
    }

    private static int[] together(State state, int field) {
        TreeMap<Integer, Integer> votes = new TreeMap<>();
        int clear = 0;
        for (int sheet = 0; sheet < 5; sheet++) {
            if (kind(state, sheet, field) == 1) {
                clear |= 1 << sheet;
                List<Mark> readable = readable(state, sheet, field);
                Mark last = readable.get(readable.size() - 1);
                votes.merge(last.value, last.strength, Integer::sum);
            }
        }
        int most = votes.values().stream().mapToInt(vote -> vote).max().orElse(0);
        votes.values().removeIf(vote -> vote < most);
        boolean none = votes.isEmpty();
        return new int[] {votes.size(), none ? -6 : votes.firstKey(), none ? -6 : votes.lastKey(), most, clear};
    }

    int together(int field, int what) {
        if (!in(field, 0, 9)) {
            return -1;
        }
        return in(what, 0, 4) ? together(now, field)[what] : -2;
    }

    int count(int what) {
        if (!in(what, 0, 9)) {
            return -2;
        }
        int one = 0;
        int conflict = 0;
        int marks = 0;
        for (int field = 0; field < 10; field++) {
            int values = together(now, field)[0];
            one |= (values == 1 ? 1 : 0) << field;
            conflict |= (values > 1 ? 1 : 0) << field;
            for (Sheet sheet : now.sheets) {
                marks += sheet.fields.get(field).size();
            }
        }
        int top = now.stack.isEmpty() ? -6 : now.stack.get(0);
        int low = now.stack.isEmpty() ? -6 : now.stack.get(now.stack.size() - 1);
        return new int[] {top, low, set(now.stack), marks, one, conflict, pad.length(), history.size(),
            now.settings[0], now.settings[1]}[what];
    }

    int differ(int sheet, int other) {
        if (!in(sheet, 0, 4) || !in(other, 0, 4)) {
            return -1;
        }
        int fields = 0;
        for (int field = 0; field < 10; field++) {
            int kind = reading(sheet, field, 0);
            boolean same = kind == reading(other, field, 0)
                && (kind != 1 || reading(sheet, field, 1) == reading(other, field, 1));
            fields |= (same ? 0 : 1) << field;
        }
        return fields;
    }

    int enoughFor(int sheet) {
        if (!in(sheet, 0, 4)) {
            return -1;
        }
        for (int pressure = 1; pressure <= 9; pressure++) {
            if (press(copy(now), pressure).getOrDefault(sheet, 0) >= now.settings[0]) {
                return pressure;
            }
        }
        return -6;
    }

    int strikeFor(int field) {
        if (!in(field, 0, 9)) {
            return -1;
        }
        for (int pressure = 1; pressure <= 9; pressure++) {
            State struck = copy(now);
            if (strikeOn(struck, field, pressure) >= 0
                && struck.stack.stream().allMatch(sheet -> kind(struck, sheet, field) == 0)) {
                return pressure;
            }
        }
        return -6;
    }

    int lasts(int pressure) {
        if (!in(pressure, 1, 9)) {
            return -2;
        }
        if (now.stack.isEmpty()) {
            return -5;
        }
        State worn = copy(now);
        int times = 0;
        while (times < 1000 && press(worn, pressure).size() == worn.stack.size()) {
            times++;
        }
        return times;
    }

    int ifWritten(int field, int value, int pressure) {
        State written = copy(now);
        int answer = writeTo(written, field, value, pressure);
        if (answer < 0) {
            return answer;
        }
        int[] votes = together(written, field);
        return votes[0] == 1 ? votes[1] : -6;
    }

    int put(long characters) {
        StringBuilder text = new StringBuilder();
        long rest = characters;
        while ((rest & 255) != 0) {
            text.append((char) (rest & 255));
            rest >>>= 8;
        }
        boolean good = rest == 0 && text.length() > 0 && text.chars().allMatch(code -> in(code, 33, 126));
        if (!good) {
            return -2;
        }
        if (pad.length() + text.length() > 80) {
            return -4;
        }
        pad += text.reverse();
        return pad.length();
    }

    int wipe() {
        int length = pad.length();
        pad = "";
        return length;
    }

    int fault() {
        for (int length = 1; length <= pad.length(); length++) {
            Matcher matcher = TEXT.matcher(pad.substring(0, length));
            // A beginning is good if it is a text, or if only its end stands in the way.
            if (!matcher.matches() && !matcher.hitEnd()) {
                return length - 1;
            }
        }
        return TEXT.matcher(pad).matches() ? -6 : pad.length();
    }

    int carryOut() {
        if (!TEXT.matcher(pad).matches()) {
            return -3;
        }
        keep(copy(now));
        String[] orders = pad.split(";");
        pad = "";
        int carried = 0;
        for (String order : orders) {
            if (carryOut(order) < 0) {
                break;
            }
            carried++;
        }
        return carried;
    }

    private int carryOut(String order) {
        String[] parts = order.split("[=!]");
        switch (order.charAt(0)) {
            case 'w': return writeTo(now, order.charAt(1) - '0', Integer.parseInt(parts[1]), Integer.parseInt(parts[2]));
            case 's': return strikeOn(now, order.charAt(1) - '0', Integer.parseInt(parts[1]));
            case 't': return tearFrom(now, 0);
            default: return tearFrom(now, 1);
        }
    }

    int undo() {
        if (history.isEmpty()) {
            return -5;
        }
        now = history.removeLast();
        return history.size();
    }

    int save(int slot) {
        if (!in(slot, 0, 1)) {
            return -2;
        }
        slots[slot] = copy(now);
        return set(now.stack);
    }

    int restore(int slot) {
        if (!in(slot, 0, 1)) {
            return -2;
        }
        if (slots[slot] == null) {
            return -5;
        }
        keep(now);
        now = copy(slots[slot]);
        return set(now.stack);
    }
}
