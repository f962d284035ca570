/** A form with carbon copies, as ../shared/DOC.md promises it. */
public final class CarbonSheets {
    public static final int NO_SUCH = -1, BAD_VALUE = -2, BAD_TEXT = -3, TOO_MANY = -4, NOT_POSSIBLE = -5, NONE = -6;
    public static final int FAINT = 0, OVER = 1;
    public static final int EMPTY = 0, CLEAR = 1, UNCLEAR = 2;

    private static final int SHEETS = 5, FIELDS = 10, MARKS = 8;
    private static final int MOST_THICKNESS = 4, MOST_USES = 300, MOST_VALUE = 999, MOST_PRESSURE = 9;
    private static final int LEAST_FAINT = 1, MOST_FAINT = 9, LEAST_OVER = 0, MOST_OVER = 5;
    private static final int TOP_SIDE = 0, LOW_SIDE = 1;
    private static final int ENDLESS = 1000;
    private static final int STATES_KEPT = 6, SLOTS = 2;
    private static final int MOST_ON_PAD = 80, MOST_AT_ONCE = 8, LEAST_CODE = 33, MOST_CODE = 126;
    private static final int ALLOWED = 0;

    private final State now = new State();
    private final State trial = new State();
    private final Tally tally = new Tally();
    private final History history = new History();
    private final State[] slots = new State[SLOTS];
    private final boolean[] isSaved = new boolean[SLOTS];
    private final Pad pad = new Pad();
    private final OrderReader reader = new OrderReader();

    public CarbonSheets() {
        for (int slot = 0; slot < SLOTS; slot++) {
            slots[slot] = new State();
        }
    }

    // ---- setting up

    public int set(int setting, int value) {
        if (!isSettingWith(setting, value)) {
            return BAD_VALUE;
        }
        history.record(now);
        int previous = now.settings[setting];
        now.settings[setting] = value;
        return previous;
    }

    public int thickness(int sheet, int thickness) {
        if (!isSheet(sheet)) {
            return NO_SUCH;
        }
        if (!isWithin(thickness, 0, MOST_THICKNESS)) {
            return BAD_VALUE;
        }
        history.record(now);
        int previous = now.sheets[sheet].thickness;
        now.sheets[sheet].thickness = thickness;
        return previous;
    }

    public int carbon(int sheet, int uses) {
        if (!isSheet(sheet)) {
            return NO_SUCH;
        }
        if (!isWithin(uses, 0, MOST_USES)) {
            return BAD_VALUE;
        }
        if (!now.isInStack(sheet)) {
            return NOT_POSSIBLE;
        }
        history.record(now);
        int previous = now.sheets[sheet].uses;
        now.sheets[sheet].uses = uses;
        return previous;
    }

    // ---- writing

    public int write(int field, int value, int pressure) {
        int refusal = now.refusalToWrite(field, value, pressure);
        if (refusal != ALLOWED) {
            return refusal;
        }
        history.record(now);
        return now.pressValue(field, value, pressure);
    }

    public int strike(int field, int pressure) {
        int refusal = now.refusalToStrike(field, pressure);
        if (refusal != ALLOWED) {
            return refusal;
        }
        history.record(now);
        return now.pressStroke(field, pressure);
    }

    public int paint(int sheet, int field) {
        if (!isSheet(sheet) || !isField(field)) {
            return NO_SUCH;
        }
        if (now.isInStack(sheet) && sheet != now.top) {
            return NOT_POSSIBLE;
        }
        history.record(now);
        now.noteIfApart(sheet, field);
        return now.sheets[sheet].strikeUpTo(field, MOST_PRESSURE);
    }

    public int amend(int sheet, int field, int value, int pressure) {
        if (!isSheet(sheet) || !isField(field)) {
            return NO_SUCH;
        }
        if (!isValue(value) || !isPressure(pressure)) {
            return BAD_VALUE;
        }
        if (now.isInStack(sheet)) {
            return NOT_POSSIBLE;
        }
        if (!now.sheets[sheet].hasRoom(field)) {
            return TOO_MANY;
        }
        history.record(now);
        now.noteIfApart(sheet, field);
        now.sheets[sheet].addMark(field, value, pressure);
        return now.sheets[sheet].counts[field];
    }

    public int tear(int side) {
        int refusal = now.refusalToTear(side);
        if (refusal != ALLOWED) {
            return refusal;
        }
        history.record(now);
        return now.tearOff(side);
    }

    // ---- what there is

    public int ofSheet(int sheet, int what) {
        if (!isSheet(sheet)) {
            return NO_SUCH;
        }
        Sheet asked = now.sheets[sheet];
        switch (what) {
            case 0: return asked.thickness;
            case 1: return asked.uses;
            case 2: return now.isInStack(sheet) ? 0 : 1;
            case 3: return asked.allMarks();
            case 4: return asked.struckMarks();
            case 5: return now.fieldsThatAre(CLEAR, sheet);
            case 6: return now.fieldsThatAre(UNCLEAR, sheet);
            case 7: return asked.amendedFields;
            default: return BAD_VALUE;
        }
    }

    public int reading(int sheet, int field, int what) {
        if (!isSheet(sheet) || !isField(field)) {
            return NO_SUCH;
        }
        Sheet asked = now.sheets[sheet];
        int last = asked.lastReadable(field, now.settings[FAINT]);
        switch (what) {
            case 0: return now.kindOf(sheet, field);
            case 1: return last < 0 ? NONE : asked.valueAt(field, last);
            case 2: return last < 0 ? NONE : asked.strengthAt(field, last);
            case 3: return asked.counts[field];
            case 4: return asked.readableMarks(field, now.settings[FAINT]);
            default: return BAD_VALUE;
        }
    }

    public int ofMark(int sheet, int field, int mark, int what) {
        if (!isSheet(sheet) || !isField(field)) {
            return NO_SUCH;
        }
        Sheet asked = now.sheets[sheet];
        if (mark < 0 || mark >= asked.counts[field]) {
            return NO_SUCH;
        }
        switch (what) {
            case 0: return asked.valueAt(field, mark);
            case 1: return asked.strengthAt(field, mark);
            case 2: return asked.isStruck(field, mark) ? 1 : 0;
            default: return BAD_VALUE;
        }
    }

    public int together(int field, int what) {
        if (!isField(field)) {
            return NO_SUCH;
        }
        tally.takeIn(now, field);
        switch (what) {
            case 0: return tally.leaders;
            case 1: return tally.lowest;
            case 2: return tally.highest;
            case 3: return tally.most;
            case 4: return tally.clearSheets;
            default: return BAD_VALUE;
        }
    }

    public int count(int what) {
        switch (what) {
            case 0: return now.isStackEmpty() ? NONE : now.top;
            case 1: return now.isStackEmpty() ? NONE : now.low;
            case 2: return now.stack();
            case 3: return now.allMarks();
            case 4: return fieldsWithLeaders(1, 1);
            case 5: return fieldsWithLeaders(2, SHEETS);
            case 6: return pad.length;
            case 7: return history.size;
            case 8: return now.settings[FAINT];
            case 9: return now.settings[OVER];
            default: return BAD_VALUE;
        }
    }

    // ---- what if; nothing changes

    public int differ(int sheet, int other) {
        if (!isSheet(sheet) || !isSheet(other)) {
            return NO_SUCH;
        }
        int fields = 0;
        for (int field = 0; field < FIELDS; field++) {
            if (!now.readTheSame(sheet, other, field)) {
                fields |= 1 << field;
            }
        }
        return fields;
    }

    public int enoughFor(int sheet) {
        if (!isSheet(sheet)) {
            return NO_SUCH;
        }
        for (int pressure = 1; pressure <= MOST_PRESSURE; pressure++) {
            now.measure(pressure);
            if (now.arriving[sheet] >= now.settings[FAINT]) {
                return pressure;
            }
        }
        return NONE;
    }

    public int strikeFor(int field) {
        if (!isField(field)) {
            return NO_SUCH;
        }
        if (now.isStackEmpty()) {
            return NONE;
        }
        for (int pressure = 1; pressure <= MOST_PRESSURE; pressure++) {
            if (now.wouldBeEmptied(field, pressure)) {
                return pressure;
            }
        }
        return NONE;
    }

    public int lasts(int pressure) {
        if (!isPressure(pressure)) {
            return BAD_VALUE;
        }
        if (now.isStackEmpty()) {
            return NOT_POSSIBLE;
        }
        return now.pressesToTheLowest(pressure);
    }

    public int ifWritten(int field, int value, int pressure) {
        int refusal = now.refusalToWrite(field, value, pressure);
        if (refusal != ALLOWED) {
            return refusal;
        }
        trial.copyFrom(now);
        trial.pressValue(field, value, pressure);
        tally.takeIn(trial, field);
        return tally.leaders == 1 ? tally.lowest : NONE;
    }

    // ---- texts

    public int put(long characters) {
        int size = Pad.sizeOf(characters);
        if (size == 0) {
            return BAD_VALUE;
        }
        if (pad.length + size > MOST_ON_PAD) {
            return TOO_MANY;
        }
        pad.append(characters, size);
        return pad.length;
    }

    public int wipe() {
        int previous = pad.length;
        pad.length = 0;
        return previous;
    }

    public int fault() {
        return pad.firstFault(reader);
    }

    public int carryOut() {
        if (pad.firstFault(reader) != NONE) {
            return BAD_TEXT;
        }
        history.record(now);
        int carried = carryOutThePad();
        pad.length = 0;
        return carried;
    }

    // ---- undo, saving

    public int undo() {
        return history.takesBackInto(now) ? history.size : NOT_POSSIBLE;
    }

    public int save(int slot) {
        if (!isSlot(slot)) {
            return BAD_VALUE;
        }
        slots[slot].copyFrom(now);
        isSaved[slot] = true;
        return now.stack();
    }

    public int restore(int slot) {
        if (!isSlot(slot)) {
            return BAD_VALUE;
        }
        if (!isSaved[slot]) {
            return NOT_POSSIBLE;
        }
        history.record(now);
        now.copyFrom(slots[slot]);
        return now.stack();
    }

    /** Finds the fields of which least to most values have the most votes. */
    private int fieldsWithLeaders(int least, int most) {
        int fields = 0;
        for (int field = 0; field < FIELDS; field++) {
            tally.takeIn(now, field);
            if (isWithin(tally.leaders, least, most)) {
                fields |= 1 << field;
            }
        }
        return fields;
    }

    private int carryOutThePad() {
        int carried = 0;
        reader.begin();
        for (int place = 0; place < pad.length; place++) {
            reader.takes(pad.codes[place]);
            if (reader.isAfterOrder()) {
                if (!carriesOutOrder()) {
                    return carried;
                }
                carried++;
            }
        }
        return carried;
    }

    private boolean carriesOutOrder() {
        switch (reader.kind) {
            case 'w':
                if (now.refusalToWrite(reader.field, reader.value, reader.pressure) != ALLOWED) {
                    return false;
                }
                now.pressValue(reader.field, reader.value, reader.pressure);
                return true;
            case 's':
                if (now.refusalToStrike(reader.field, reader.pressure) != ALLOWED) {
                    return false;
                }
                now.pressStroke(reader.field, reader.pressure);
                return true;
            default:
                int side = reader.kind == 't' ? TOP_SIDE : LOW_SIDE;
                if (now.refusalToTear(side) != ALLOWED) {
                    return false;
                }
                now.tearOff(side);
                return true;
        }
    }

    private static boolean isWithin(int number, int least, int most) {
        return number >= least && number <= most;
    }

    private static boolean isSheet(int sheet) {
        return isWithin(sheet, 0, SHEETS - 1);
    }

    private static boolean isField(int field) {
        return isWithin(field, 0, FIELDS - 1);
    }

    private static boolean isValue(int value) {
        return isWithin(value, 0, MOST_VALUE);
    }

    private static boolean isPressure(int pressure) {
        return isWithin(pressure, 1, MOST_PRESSURE);
    }

    private static boolean isSlot(int slot) {
        return isWithin(slot, 0, SLOTS - 1);
    }

    private static boolean isSettingWith(int setting, int value) {
        switch (setting) {
            case FAINT: return isWithin(value, LEAST_FAINT, MOST_FAINT);
            case OVER: return isWithin(value, LEAST_OVER, MOST_OVER);
            default: return false;
        }
    }

    /** A sheet, the carbon under it, and its marks. */
    private static final class Sheet {
        private static final int STRUCK = 1, STRENGTH_SHIFT = 1, STRENGTH_MASK = 15, VALUE_SHIFT = 5;

        int thickness = 1;
        int uses = 60;
        int amendedFields = 0;
        final int[] counts = new int[FIELDS];
        // One number a mark (value, strength, struck), as every change copies them all.
        final int[] marks = new int[FIELDS * MARKS];

        void copyFrom(Sheet other) {
            thickness = other.thickness;
            uses = other.uses;
            amendedFields = other.amendedFields;
            System.arraycopy(other.counts, 0, counts, 0, FIELDS);
            System.arraycopy(other.marks, 0, marks, 0, FIELDS * MARKS);
        }

        boolean hasRoom(int field) {
            return counts[field] < MARKS;
        }

        void addMark(int field, int value, int strength) {
            if (!hasRoom(field)) {
                return;
            }
            marks[field * MARKS + counts[field]] = value << VALUE_SHIFT | strength << STRENGTH_SHIFT;
            counts[field]++;
        }

        int valueAt(int field, int place) {
            return marks[field * MARKS + place] >> VALUE_SHIFT;
        }

        int strengthAt(int field, int place) {
            return marks[field * MARKS + place] >> STRENGTH_SHIFT & STRENGTH_MASK;
        }

        boolean isStruck(int field, int place) {
            return (marks[field * MARKS + place] & STRUCK) != 0;
        }

        boolean isReadable(int field, int place, int faint) {
            int mark = marks[field * MARKS + place];
            return (mark & STRUCK) == 0 && (mark >> STRENGTH_SHIFT & STRENGTH_MASK) >= faint;
        }

        /** Returns how many marks are struck that were not struck before. */
        int strikeUpTo(int field, int strength) {
            int struck = 0;
            for (int place = 0; place < counts[field]; place++) {
                if (!isStruck(field, place) && strengthAt(field, place) <= strength) {
                    marks[field * MARKS + place] |= STRUCK;
                    struck++;
                }
            }
            return struck;
        }

        /** Returns the place of the last readable mark, NONE if none is readable. */
        int lastReadable(int field, int faint) {
            for (int place = counts[field] - 1; place >= 0; place--) {
                if (isReadable(field, place, faint)) {
                    return place;
                }
            }
            return NONE;
        }

        int readableMarks(int field, int faint) {
            int readable = 0;
            for (int place = 0; place < counts[field]; place++) {
                if (isReadable(field, place, faint)) {
                    readable++;
                }
            }
            return readable;
        }

        int strongestReadable(int field, int faint) {
            int strongest = 0;
            for (int place = 0; place < counts[field]; place++) {
                if (isReadable(field, place, faint)) {
                    strongest = Math.max(strongest, strengthAt(field, place));
                }
            }
            return strongest;
        }

        int kindOf(int field, int faint, int over) {
            int last = lastReadable(field, faint);
            if (last < 0) {
                return EMPTY;
            }
            int value = valueAt(field, last);
            int bearable = strengthAt(field, last) + over;
            for (int place = 0; place < last; place++) {
                if (isReadable(field, place, faint) && valueAt(field, place) != value
                        && strengthAt(field, place) > bearable) {
                    return UNCLEAR;
                }
            }
            return CLEAR;
        }

        int allMarks() {
            int all = 0;
            for (int field = 0; field < FIELDS; field++) {
                all += counts[field];
            }
            return all;
        }

        int struckMarks() {
            int struck = 0;
            for (int field = 0; field < FIELDS; field++) {
                for (int place = 0; place < counts[field]; place++) {
                    if (isStruck(field, place)) {
                        struck++;
                    }
                }
            }
            return struck;
        }
    }

    /** All that undo() and restore() bring back. */
    private static final class State {
        final Sheet[] sheets = new Sheet[SHEETS];
        final int[] settings = {2, 1};
        // The stack is always top to low: a sheet goes only from one of its ends.
        int top = 0;
        int low = SHEETS - 1;
        // What measure() found last; no part of what is copied.
        final int[] arriving = new int[SHEETS];

        State() {
            for (int sheet = 0; sheet < SHEETS; sheet++) {
                sheets[sheet] = new Sheet();
            }
        }

        void copyFrom(State other) {
            for (int sheet = 0; sheet < SHEETS; sheet++) {
                sheets[sheet].copyFrom(other.sheets[sheet]);
            }
            settings[FAINT] = other.settings[FAINT];
            settings[OVER] = other.settings[OVER];
            top = other.top;
            low = other.low;
        }

        boolean isStackEmpty() {
            return top > low;
        }

        boolean isInStack(int sheet) {
            return sheet >= top && sheet <= low;
        }

        int stack() {
            int set = 0;
            for (int sheet = 0; sheet < SHEETS; sheet++) {
                if (isInStack(sheet)) {
                    set |= 1 << sheet;
                }
            }
            return set;
        }

        void noteIfApart(int sheet, int field) {
            if (!isInStack(sheet)) {
                sheets[sheet].amendedFields |= 1 << field;
            }
        }

        /** Finds the strengths with which a press would come to the sheets, 0 where it would not come. */
        void measure(int pressure) {
            int strength = pressure;
            for (int sheet = 0; sheet < SHEETS; sheet++) {
                arriving[sheet] = 0;
                if (isInStack(sheet)) {
                    arriving[sheet] = strength;
                    boolean hasUse = sheets[sheet].uses > 0;
                    strength = hasUse ? Math.max(0, strength - sheets[sheet].thickness) : 0;
                }
            }
        }

        /** Uses up the carbons through which the press went that measure() measured. */
        void wearCarbons() {
            for (int sheet = 0; sheet < SHEETS - 1; sheet++) {
                if (arriving[sheet] > 0 && arriving[sheet + 1] > 0) {
                    sheets[sheet].uses--;
                }
            }
        }

        int refusalToWrite(int field, int value, int pressure) {
            if (!isField(field)) {
                return NO_SUCH;
            }
            if (!isValue(value) || !isPressure(pressure)) {
                return BAD_VALUE;
            }
            if (isStackEmpty()) {
                return NOT_POSSIBLE;
            }
            measure(pressure);
            for (int sheet = 0; sheet < SHEETS; sheet++) {
                if (arriving[sheet] > 0 && !sheets[sheet].hasRoom(field)) {
                    return TOO_MANY;
                }
            }
            return ALLOWED;
        }

        /** Returns to how many sheets the value came. */
        int pressValue(int field, int value, int pressure) {
            int reached = 0;
            measure(pressure);
            for (int sheet = 0; sheet < SHEETS; sheet++) {
                if (arriving[sheet] > 0) {
                    sheets[sheet].addMark(field, value, arriving[sheet]);
                    reached++;
                }
            }
            wearCarbons();
            return reached;
        }

        int refusalToStrike(int field, int pressure) {
            if (!isField(field)) {
                return NO_SUCH;
            }
            if (!isPressure(pressure)) {
                return BAD_VALUE;
            }
            return isStackEmpty() ? NOT_POSSIBLE : ALLOWED;
        }

        /** Returns how many marks are struck that were not struck before. */
        int pressStroke(int field, int pressure) {
            int struck = 0;
            measure(pressure);
            for (int sheet = 0; sheet < SHEETS; sheet++) {
                struck += sheets[sheet].strikeUpTo(field, arriving[sheet]);
            }
            wearCarbons();
            return struck;
        }

        int refusalToTear(int side) {
            if (side != TOP_SIDE && side != LOW_SIDE) {
                return BAD_VALUE;
            }
            return isStackEmpty() ? NOT_POSSIBLE : ALLOWED;
        }

        /** Returns the sheet that is torn off. */
        int tearOff(int side) {
            if (side == TOP_SIDE) {
                top++;
                return top - 1;
            }
            low--;
            return low + 1;
        }

        int kindOf(int sheet, int field) {
            return sheets[sheet].kindOf(field, settings[FAINT], settings[OVER]);
        }

        int fieldsThatAre(int kind, int sheet) {
            int fields = 0;
            for (int field = 0; field < FIELDS; field++) {
                if (kindOf(sheet, field) == kind) {
                    fields |= 1 << field;
                }
            }
            return fields;
        }

        boolean readTheSame(int sheet, int other, int field) {
            int kind = kindOf(sheet, field);
            if (kind != kindOf(other, field)) {
                return false;
            }
            return kind != CLEAR || lastValue(sheet, field) == lastValue(other, field);
        }

        int lastValue(int sheet, int field) {
            int last = sheets[sheet].lastReadable(field, settings[FAINT]);
            return last < 0 ? NONE : sheets[sheet].valueAt(field, last);
        }

        int lastStrength(int sheet, int field) {
            int last = sheets[sheet].lastReadable(field, settings[FAINT]);
            return last < 0 ? NONE : sheets[sheet].strengthAt(field, last);
        }

        int allMarks() {
            int all = 0;
            for (int sheet = 0; sheet < SHEETS; sheet++) {
                all += sheets[sheet].allMarks();
            }
            return all;
        }

        boolean wouldBeEmptied(int field, int pressure) {
            measure(pressure);
            for (int sheet = 0; sheet < SHEETS; sheet++) {
                int strongest = sheets[sheet].strongestReadable(field, settings[FAINT]);
                if (isInStack(sheet) && strongest > arriving[sheet]) {
                    return false;
                }
            }
            return true;
        }

        int pressesToTheLowest(int pressure) {
            int presses = ENDLESS;
            measure(pressure);
            for (int sheet = 0; sheet < SHEETS; sheet++) {
                if (isInStack(sheet) && arriving[sheet] == 0) {
                    return 0;
                }
                if (isInStack(sheet) && sheet < low) {
                    presses = Math.min(presses, sheets[sheet].uses);
                }
            }
            return presses;
        }
    }

    /** The votes that the sheets have for the values of one field. */
    private static final class Tally {
        int clearSheets;
        int leaders;
        int lowest;
        int highest;
        int most;
        private int candidates;
        private final int[] values = new int[SHEETS];
        private final int[] votes = new int[SHEETS];

        void takeIn(State state, int field) {
            clearSheets = 0;
            candidates = 0;
            for (int sheet = 0; sheet < SHEETS; sheet++) {
                if (state.kindOf(sheet, field) == CLEAR) {
                    clearSheets |= 1 << sheet;
                    addVotes(state.lastValue(sheet, field), state.lastStrength(sheet, field));
                }
            }
            findLeaders();
        }

        private void addVotes(int value, int strength) {
            for (int candidate = 0; candidate < candidates; candidate++) {
                if (values[candidate] == value) {
                    votes[candidate] += strength;
                    return;
                }
            }
            if (candidates < SHEETS) {
                values[candidates] = value;
                votes[candidates] = strength;
                candidates++;
            }
        }

        private void findLeaders() {
            leaders = 0;
            lowest = NONE;
            highest = NONE;
            most = 0;
            for (int candidate = 0; candidate < candidates; candidate++) {
                int value = values[candidate];
                if (votes[candidate] > most) {
                    most = votes[candidate];
                    leaders = 1;
                    lowest = value;
                    highest = value;
                } else if (votes[candidate] == most) {
                    leaders++;
                    lowest = Math.min(lowest, value);
                    highest = Math.max(highest, value);
                }
            }
        }
    }

    /** The states before the latest changes, the oldest one first. */
    private static final class History {
        int size = 0;
        private final State[] states = new State[STATES_KEPT];

        History() {
            for (int place = 0; place < STATES_KEPT; place++) {
                states[place] = new State();
            }
        }

        void record(State state) {
            if (size >= STATES_KEPT) {
                dropOldest();
            }
            states[size].copyFrom(state);
            size++;
        }

        private void dropOldest() {
            // It goes to the end to be written over, as no call makes an object.
            State oldest = states[0];
            for (int place = 1; place < STATES_KEPT; place++) {
                states[place - 1] = states[place];
            }
            states[STATES_KEPT - 1] = oldest;
            size = STATES_KEPT - 1;
        }

        /** Brings the latest state back; false if there is none. */
        boolean takesBackInto(State state) {
            if (size < 1) {
                return false;
            }
            size--;
            state.copyFrom(states[size]);
            return true;
        }
    }

    /** The text of the orders to come. */
    private static final class Pad {
        int length = 0;
        final char[] codes = new char[MOST_ON_PAD];

        /** Returns how many characters the number holds, 0 if it is not a good one. */
        static int sizeOf(long characters) {
            for (int size = 0; size < MOST_AT_ONCE; size++) {
                long rest = characters >>> 8 * size;
                int code = (int) (rest & 255);
                if (code == 0) {
                    return rest == 0 ? size : 0;
                }
                if (!isWithin(code, LEAST_CODE, MOST_CODE)) {
                    return 0;
                }
            }
            return MOST_AT_ONCE;
        }

        void append(long characters, int size) {
            for (int behind = size - 1; behind >= 0; behind--) {
                if (length < MOST_ON_PAD) {
                    codes[length] = (char) (characters >>> 8 * behind & 255);
                    length++;
                }
            }
        }

        int firstFault(OrderReader reader) {
            reader.begin();
            for (int place = 0; place < length; place++) {
                if (!reader.takes(codes[place])) {
                    return place;
                }
            }
            return reader.isAfterOrder() ? NONE : length;
        }
    }

    /** Reads orders, one character after the other, and holds the order that it read last. */
    private static final class OrderReader {
        private static final int KIND = 0, FIELD = 1, EQUALS = 2, FIRST_DIGIT = 3, MORE_DIGITS = 4,
                BEFORE_PRESSURE = 5, PRESSURE = 6, AFTER_ORDER = 7;

        int kind;
        int field;
        int value;
        int pressure;
        private int expected;

        void begin() {
            expected = KIND;
        }

        boolean isAfterOrder() {
            return expected == AFTER_ORDER;
        }

        /** Takes a character; false if it cannot stand at its place. */
        boolean takes(char code) {
            switch (expected) {
                case KIND: return takesKind(code);
                case FIELD: return takesField(code);
                case EQUALS: return goesOn(code == '=', FIRST_DIGIT);
                case FIRST_DIGIT: return takesFirstDigit(code);
                case MORE_DIGITS: return code == '!' ? goesOn(true, PRESSURE) : takesOneMoreDigit(code);
                case BEFORE_PRESSURE: return goesOn(code == '!', PRESSURE);
                case PRESSURE: return takesPressure(code);
                default: return goesOn(code == ';', KIND);
            }
        }

        private boolean goesOn(boolean isGood, int next) {
            if (isGood) {
                expected = next;
            }
            return isGood;
        }

        private boolean takesKind(char code) {
            kind = code;
            if (code == 'w' || code == 's') {
                return goesOn(true, FIELD);
            }
            return goesOn(code == 't' || code == 'b', AFTER_ORDER);
        }

        private boolean takesField(char code) {
            field = code - '0';
            return goesOn(isDigit(code), kind == 'w' ? EQUALS : BEFORE_PRESSURE);
        }

        private boolean takesFirstDigit(char code) {
            value = code - '0';
            return goesOn(isDigit(code), MORE_DIGITS);
        }

        private boolean takesOneMoreDigit(char code) {
            // Behind a 0 it would make that a leading zero.
            if (!isDigit(code) || value == 0) {
                return false;
            }
            value = value * 10 + (code - '0');
            return value <= MOST_VALUE;
        }

        private boolean takesPressure(char code) {
            pressure = code - '0';
            return goesOn(isPressure(pressure), AFTER_ORDER);
        }

        private static boolean isDigit(char code) {
            return code >= '0' && code <= '9';
        }
    }
}
