/** An almanac shared by two towns that use different calendars. */
public final class TwoTownAlmanac {
    public static final int NONE = -1;

    private static final int TOWNS = 2;
    private static final int WEEK = 7;
    private static final int MONTHS = 12;
    private static final int MOST_DAY_OF_MONTH = 31;
    private static final int MOST_YEAR = 60;
    private static final int MOST_DAY = 20000;
    private static final int MOST_TODAY = 9999;
    private static final int MOST_GAPS = 3;
    private static final int MOST_GAP_LENGTH = 40;
    private static final int MOST_FEASTS = 10;
    private static final int MOST_SHIFT = 9;
    private static final int MOST_COPIES = 9;
    private static final int MOST_DAYS_AHEAD = 400;
    private static final int NEXT_DAY_SPAN = 800;
    private static final int MOST_DAYS_TO_MEETING = 2000;
    private static final int MOST_TEXT = 80;
    private static final int MOST_APPENDED = 8;
    private static final int LEAST_CODE = 33;
    private static final int MOST_CODE = 126;
    private static final int MOST_RECORDED = 6;
    private static final int SLOTS = 2;

    private final State state = new State();
    private final State[] recorded = new State[MOST_RECORDED];
    private int recordedCount = 0;
    private final State[] slots = new State[SLOTS];
    private final boolean[] slotIsFilled = new boolean[SLOTS];
    private final DateText text = new DateText();
    // One row for all calls that look at many days, so that no call makes one.
    private final int[] feastSets = new int[MOST_DAYS_AHEAD];

    public TwoTownAlmanac() {
        for (int i = 0; i < MOST_RECORDED; i++) {
            recorded[i] = new State();
        }
        for (int i = 0; i < SLOTS; i++) {
            slots[i] = new State();
        }
    }

    // ---- calendars

    public int addGap(int town, int afterDay, int length)
            throws IndexOutOfBoundsException, IllegalArgumentException, IllegalStateException {
        Town chosen = requireTown(town);
        requireRange(afterDay, 0, MOST_TODAY);
        requireRange(length, 1, MOST_GAP_LENGTH);
        if (afterDay <= chosen.latestGapDay()) {
            throw new IllegalArgumentException("the gap is not later than the latest one");
        }
        if (chosen.gaps >= MOST_GAPS) {
            throw new IllegalStateException("the town has all its gaps");
        }
        recordState();
        return chosen.leaveOut(afterDay, length);
    }

    public int gapCount(int town) throws IndexOutOfBoundsException {
        return requireTown(town).gaps;
    }

    public int gapDay(int town, int gap) throws IndexOutOfBoundsException {
        Town chosen = requireTown(town);
        requireIndex(gap, chosen.gaps);
        return chosen.gapDays[gap];
    }

    public int gapLength(int town, int gap) throws IndexOutOfBoundsException {
        Town chosen = requireTown(town);
        requireIndex(gap, chosen.gaps);
        return chosen.gapLengths[gap];
    }

    public int monthLength(int town, int month) throws IndexOutOfBoundsException, IllegalArgumentException {
        Town chosen = requireTown(town);
        requireRange(month, 1, MONTHS);
        return chosen.daysInMonth(month);
    }

    public int dayOfMonth(int town, int day) throws IndexOutOfBoundsException, IllegalArgumentException {
        Town chosen = requireTown(town);
        requireRange(day, 0, MOST_DAY);
        return chosen.dayOfMonthOn(day);
    }

    public int monthOf(int town, int day) throws IndexOutOfBoundsException, IllegalArgumentException {
        Town chosen = requireTown(town);
        requireRange(day, 0, MOST_DAY);
        return chosen.monthOn(day);
    }

    public int yearOf(int town, int day) throws IndexOutOfBoundsException, IllegalArgumentException {
        Town chosen = requireTown(town);
        requireRange(day, 0, MOST_DAY);
        return chosen.yearOn(day);
    }

    public int weekday(int day) throws IllegalArgumentException {
        requireRange(day, 0, MOST_DAY);
        return day % WEEK;
    }

    public int dayOfDate(int town, int year, int month, int dayOfMonth)
            throws IndexOutOfBoundsException, IllegalArgumentException {
        Town chosen = requireTown(town);
        requireRange(year, 1, MOST_YEAR);
        requireRange(month, 1, MONTHS);
        requireRange(dayOfMonth, 1, MOST_DAY_OF_MONTH);
        return chosen.dayWithDate(year, month, dayOfMonth);
    }

    // ---- feasts

    public int addFeast(int town, int month, int dayOfMonth)
            throws IndexOutOfBoundsException, IllegalArgumentException, IllegalStateException {
        requireTown(town);
        requireRange(month, 1, MONTHS);
        requireRange(dayOfMonth, 1, MOST_DAY_OF_MONTH);
        if (state.feastsAdded >= MOST_FEASTS) {
            throw new IllegalStateException("the almanac has all its feasts");
        }
        recordState();
        return state.putFeast(town, month, dayOfMonth);
    }

    public int barWeekday(int feast, int weekday) throws IndexOutOfBoundsException, IllegalArgumentException {
        Feast chosen = requireFeast(feast);
        requireRange(weekday, 0, WEEK - 1);
        recordState();
        int before = chosen.barred;
        chosen.barred = weekday;
        return before;
    }

    public int allowAllWeekdays(int feast) throws IndexOutOfBoundsException, IllegalStateException {
        Feast chosen = requireFeast(feast);
        if (chosen.barred == NONE) {
            throw new IllegalStateException("no weekday is barred");
        }
        recordState();
        int before = chosen.barred;
        chosen.barred = NONE;
        return before;
    }

    public int feastCount() {
        return state.feastsAdded;
    }

    public int feastTown(int feast) throws IndexOutOfBoundsException {
        return requireFeast(feast).town;
    }

    public int barredWeekday(int feast) throws IndexOutOfBoundsException {
        return requireFeast(feast).barred;
    }

    public int dayDue(int feast, int year) throws IndexOutOfBoundsException, IllegalArgumentException {
        Feast chosen = requireFeast(feast);
        requireRange(year, 1, MOST_YEAR);
        return state.townWith(chosen.town).dueIn(chosen, year);
    }

    public int dayKept(int feast, int year) throws IndexOutOfBoundsException, IllegalArgumentException {
        Feast chosen = requireFeast(feast);
        requireRange(year, 1, MOST_YEAR);
        return state.keptIn(chosen, year);
    }

    public boolean isKept(int feast, int day) throws IndexOutOfBoundsException, IllegalArgumentException {
        Feast chosen = requireFeast(feast);
        requireRange(day, 0, MOST_DAY);
        return state.firstKept(chosen, day, day) != NONE;
    }

    public int feastsOn(int day) throws IllegalArgumentException {
        requireRange(day, 0, MOST_DAY);
        state.markFeasts(feastSets, day, 1);
        return feastSets[0];
    }

    public boolean isQuarrel(int day) throws IllegalArgumentException {
        requireRange(day, 0, MOST_DAY);
        return quarrelsFrom(day, 1) > 0;
    }

    // ---- the shift, the monks, passing days

    public int setShift(int days) throws IllegalArgumentException {
        requireRange(days, 1, MOST_SHIFT);
        recordState();
        int before = state.shiftDays;
        state.shiftDays = days;
        return before;
    }

    public int shift() {
        return state.shiftDays;
    }

    public int setCopiesPerDay(int copies) throws IllegalArgumentException {
        requireRange(copies, 0, MOST_COPIES);
        recordState();
        int before = state.copiesEachDay;
        state.copiesEachDay = copies;
        return before;
    }

    public int copiesPerDay() {
        return state.copiesEachDay;
    }

    public int passDays(int days) throws IllegalArgumentException, IllegalStateException {
        requireRange(days, 1, MOST_DAYS_AHEAD);
        if (state.dayNow + days > MOST_TODAY) {
            throw new IllegalStateException("today would be too late");
        }
        recordState();
        int quarrels = quarrelsFrom(state.dayNow, days);
        state.quarrels += quarrels;
        state.countPassed(feastSets, days);
        state.dayNow += days;
        return quarrels;
    }

    public int today() {
        return state.dayNow;
    }

    public int feastsKept(int town) throws IndexOutOfBoundsException {
        return requireTown(town).keptCount;
    }

    public int quarrelCount() {
        return state.quarrels;
    }

    public int copiesMade() {
        return state.copies;
    }

    // ---- looking ahead

    public int nextDay(int feast) throws IndexOutOfBoundsException {
        Feast chosen = requireFeast(feast);
        return state.firstKept(chosen, state.dayNow, state.dayNow + NEXT_DAY_SPAN - 1);
    }

    public int daysUntilMeeting(int feast, int other) throws IndexOutOfBoundsException, IllegalArgumentException {
        Feast one = requireFeast(feast);
        Feast two = requireFeast(other);
        if (feast == other) {
            throw new IllegalArgumentException("a feast does not meet itself");
        }
        int day = state.firstMeeting(one, two, state.dayNow, state.dayNow + MOST_DAYS_TO_MEETING);
        return day == NONE ? NONE : day - state.dayNow;
    }

    public int quarrelsWithin(int days) throws IllegalArgumentException {
        requireRange(days, 1, MOST_DAYS_AHEAD);
        return quarrelsFrom(state.dayNow, days);
    }

    public int bestBarredWeekday(int feast) throws IndexOutOfBoundsException {
        Feast chosen = requireFeast(feast);
        int before = chosen.barred;
        int best = NONE;
        int fewest = MOST_DAYS_AHEAD + 1;
        for (int weekday = 0; weekday < WEEK; weekday++) {
            chosen.barred = weekday;
            int quarrels = quarrelsFrom(state.dayNow, MOST_DAYS_AHEAD);
            if (quarrels < fewest) {
                fewest = quarrels;
                best = weekday;
            }
        }
        chosen.barred = before;
        return best;
    }

    // ---- the text

    public int appendText(long characters) throws IllegalArgumentException, IllegalStateException {
        int count = charactersIn(characters);
        if (count == 0) {
            throw new IllegalArgumentException("the number holds no proper characters");
        }
        if (text.length + count > MOST_TEXT) {
            throw new IllegalStateException("the text would be too long");
        }
        for (int place = count - 1; place >= 0; place--) {
            text.put(codeAt(characters, place));
        }
        return text.length;
    }

    public int clearText() {
        int before = text.length;
        text.length = 0;
        return before;
    }

    public int textLength() {
        return text.length;
    }

    public int textError() {
        return text.firstError();
    }

    public int textCharacter(int index) throws IndexOutOfBoundsException {
        requireIndex(index, text.length);
        return text.codes[index];
    }

    public int dayOfText() throws IllegalStateException {
        if (text.firstError() != NONE) {
            throw new IllegalStateException("the text is no date");
        }
        Town chosen = state.townWith(text.town());
        return chosen.dayWithDate(text.number(DateText.YEAR), text.number(DateText.MONTH), text.number(DateText.DAY));
    }

    public int writeDate(int town, int day) throws IndexOutOfBoundsException, IllegalArgumentException {
        Town chosen = requireTown(town);
        requireRange(day, 0, MOST_DAY);
        text.length = 0;
        text.put(town == 0 ? 'A' : 'B');
        text.putNumber(chosen.dayOfMonthOn(day));
        text.put('.');
        text.putNumber(chosen.monthOn(day));
        text.put('.');
        text.putNumber(chosen.yearOn(day));
        return text.length;
    }

    // ---- undo, saved states

    public int undo() throws IllegalStateException {
        if (recordedCount <= 0) {
            throw new IllegalStateException("no state is recorded");
        }
        recordedCount--;
        state.copyFrom(recorded[recordedCount]);
        return recordedCount;
    }

    public int undoCount() {
        return recordedCount;
    }

    public int saveState(int slot) throws IndexOutOfBoundsException {
        requireIndex(slot, SLOTS);
        slots[slot].copyFrom(state);
        slotIsFilled[slot] = true;
        return state.dayNow;
    }

    public int loadState(int slot) throws IndexOutOfBoundsException, IllegalStateException {
        requireIndex(slot, SLOTS);
        if (!slotIsFilled[slot]) {
            throw new IllegalStateException("nothing was saved in the slot");
        }
        recordState();
        state.copyFrom(slots[slot]);
        return state.dayNow;
    }

    // ---- what the calls share

    private static void requireRange(int value, int least, int most) {
        if (value < least || value > most) {
            throw new IllegalArgumentException("a number is out of range");
        }
    }

    private static void requireIndex(int index, int count) {
        if (index < 0 || index >= count) {
            throw new IndexOutOfBoundsException("there is no such index");
        }
    }

    private Town requireTown(int town) {
        requireIndex(town, TOWNS);
        return state.townWith(town);
    }

    private Feast requireFeast(int feast) {
        requireIndex(feast, state.feastsAdded);
        return state.feasts[feast];
    }

    private void recordState() {
        if (recordedCount >= MOST_RECORDED) {
            dropOldestRecorded();
        }
        recorded[recordedCount].copyFrom(state);
        recordedCount++;
    }

    private void dropOldestRecorded() {
        // The dropped state goes to the end, to be written over: no call makes a state.
        State dropped = recorded[0];
        for (int i = 1; i < MOST_RECORDED; i++) {
            recorded[i - 1] = recorded[i];
        }
        recorded[MOST_RECORDED - 1] = dropped;
        recordedCount = MOST_RECORDED - 1;
    }

    /** Counts the quarrels and leaves the feasts of each of the days in feastSets. */
    private int quarrelsFrom(int day, int days) {
        state.markFeasts(feastSets, day, days);
        return state.countQuarrels(feastSets, days);
    }

    /** How many characters a number holds; 0 if it is not well formed. */
    private static int charactersIn(long characters) {
        int count = 0;
        while (count < MOST_APPENDED && codeAt(characters, count) != 0) {
            int code = codeAt(characters, count);
            if (code < LEAST_CODE || code > MOST_CODE) {
                return 0;
            }
            count++;
        }
        if (count < MOST_APPENDED && characters >>> (8 * count) != 0) {
            return 0;
        }
        return count;
    }

    private static int codeAt(long characters, int place) {
        return (int) (characters >>> (8 * place) & 255);
    }

    /** One town: its calendar, and how many of its feasts have been kept. */
    private static final class Town {
        private static final int YEAR_OF_A = 366;
        private static final int YEAR_OF_B = 336;
        private static final int MONTH_OF_B = 28;

        private final boolean isA;
        private final int[] gapDays = new int[MOST_GAPS];
        private final int[] gapLengths = new int[MOST_GAPS];
        private int gaps = 0;
        private int keptCount = 0;

        Town(int number) {
            isA = number == 0;
        }

        void copyFrom(Town other) {
            for (int i = 0; i < MOST_GAPS; i++) {
                gapDays[i] = other.gapDays[i];
                gapLengths[i] = other.gapLengths[i];
            }
            gaps = other.gaps;
            keptCount = other.keptCount;
        }

        int latestGapDay() {
            return gaps > 0 ? gapDays[gaps - 1] : NONE;
        }

        int leaveOut(int afterDay, int length) {
            if (gaps < MOST_GAPS) {
                gapDays[gaps] = afterDay;
                gapLengths[gaps] = length;
                gaps++;
            }
            return gaps;
        }

        int daysInMonth(int month) {
            if (isA) {
                return month % 2 == 1 ? 30 : 31;
            }
            return MONTH_OF_B;
        }

        private int daysBeforeMonth(int month) {
            int months = month - 1;
            return isA ? months * 30 + months / 2 : months * MONTH_OF_B;
        }

        private int daysInYear() {
            return isA ? YEAR_OF_A : YEAR_OF_B;
        }

        // Below, a "date" is one number: the calendar days since day 1 of month 1 of year 1.

        private int dateOf(int year, int month, int dayOfMonth) {
            return (year - 1) * daysInYear() + daysBeforeMonth(month) + dayOfMonth - 1;
        }

        private int dateOn(int day) {
            int date = day;
            for (int i = 0; i < gaps; i++) {
                if (day > gapDays[i]) {
                    date += gapLengths[i];
                }
            }
            return date;
        }

        private int dayInYearOn(int day) {
            int date = dateOn(day);
            return isA ? date % YEAR_OF_A : date % YEAR_OF_B;
        }

        int yearOn(int day) {
            int date = dateOn(day);
            return 1 + (isA ? date / YEAR_OF_A : date / YEAR_OF_B);
        }

        int monthOn(int day) {
            int dayInYear = dayInYearOn(day);
            int month = MONTHS;
            while (month > 1 && daysBeforeMonth(month) > dayInYear) {
                month--;
            }
            return month;
        }

        int dayOfMonthOn(int day) {
            return dayInYearOn(day) - daysBeforeMonth(monthOn(day)) + 1;
        }

        /** The first day that has the date or a later one. */
        private int firstDayFrom(int date) {
            int day = date;
            for (int i = 0; i < gaps && day > gapDays[i]; i++) {
                int afterGap = gapDays[i] + 1;
                int moved = day - gapLengths[i];
                day = moved > afterGap ? moved : afterGap;
            }
            return day;
        }

        int dayWithDate(int year, int month, int dayOfMonth) {
            if (month > MONTHS || dayOfMonth > daysInMonth(month)) {
                return NONE;
            }
            int date = dateOf(year, month, dayOfMonth);
            int day = firstDayFrom(date);
            return dateOn(day) == date ? day : NONE;
        }

        int dueIn(Feast feast, int year) {
            // The day behind the last one of a month is the first one of the next month.
            int behindMonth = daysInMonth(feast.month) + 1;
            int dayOfMonth = feast.dayOfMonth < behindMonth ? feast.dayOfMonth : behindMonth;
            int day = firstDayFrom(dateOf(year, feast.month, dayOfMonth));
            return yearOn(day) == year ? day : NONE;
        }
    }

    private static final class Feast {
        private int town = 0;
        private int month = 1;
        private int dayOfMonth = 1;
        private int barred = NONE;

        void copyFrom(Feast other) {
            town = other.town;
            month = other.month;
            dayOfMonth = other.dayOfMonth;
            barred = other.barred;
        }
    }

    /** All that a change records and undo brings back. */
    private static final class State {
        private final Town townA = new Town(0);
        private final Town townB = new Town(1);
        private final Feast[] feasts = new Feast[MOST_FEASTS];
        private int feastsAdded = 0;
        private int shiftDays = 1;
        private int copiesEachDay = 2;
        private int dayNow = 0;
        private int quarrels = 0;
        private int copies = 0;

        State() {
            for (int i = 0; i < MOST_FEASTS; i++) {
                feasts[i] = new Feast();
            }
        }

        void copyFrom(State other) {
            townA.copyFrom(other.townA);
            townB.copyFrom(other.townB);
            for (int i = 0; i < MOST_FEASTS; i++) {
                feasts[i].copyFrom(other.feasts[i]);
            }
            feastsAdded = other.feastsAdded;
            shiftDays = other.shiftDays;
            copiesEachDay = other.copiesEachDay;
            dayNow = other.dayNow;
            quarrels = other.quarrels;
            copies = other.copies;
        }

        Town townWith(int number) {
            return number == 0 ? townA : townB;
        }

        int putFeast(int town, int month, int dayOfMonth) {
            int number = feastsAdded;
            if (number < MOST_FEASTS) {
                Feast added = feasts[number];
                added.town = town;
                added.month = month;
                added.dayOfMonth = dayOfMonth;
                added.barred = NONE;
                feastsAdded++;
            }
            return number;
        }

        int keptIn(Feast feast, int year) {
            int due = townWith(feast.town).dueIn(feast, year);
            if (due == NONE || due % WEEK != feast.barred) {
                return due;
            }
            // Seven days later the barred weekday comes again.
            return due + (shiftDays == WEEK ? 1 : shiftDays);
        }

        /** The first year whose feast may be kept on the day or later: the shift may lead over a new year. */
        private int firstYearFor(Feast feast, int day) {
            return townWith(feast.town).yearOn(Math.max(0, day - MOST_SHIFT));
        }

        /** The first day of a span, both its ends included, on which a feast is kept. */
        int firstKept(Feast feast, int from, int to) {
            int lastYear = townWith(feast.town).yearOn(to);
            for (int year = firstYearFor(feast, from); year <= lastYear; year++) {
                int day = keptIn(feast, year);
                if (day >= from && day <= to) {
                    return day;
                }
            }
            return NONE;
        }

        /** The first day of a span, both its ends included, on which both feasts are kept. */
        int firstMeeting(Feast one, Feast two, int from, int to) {
            int lastYear = townWith(one.town).yearOn(to);
            for (int year = firstYearFor(one, from); year <= lastYear; year++) {
                int day = keptIn(one, year);
                if (day >= from && day <= to && firstKept(two, day, day) != NONE) {
                    return day;
                }
            }
            return NONE;
        }

        /** Puts the feasts that are kept on each of the days, as a set, into a row. */
        void markFeasts(int[] sets, int from, int days) {
            for (int i = 0; i < days && i < sets.length; i++) {
                sets[i] = 0;
            }
            for (int k = 0; k < feastsAdded; k++) {
                int lastYear = townWith(feasts[k].town).yearOn(from + days - 1);
                for (int year = firstYearFor(feasts[k], from); year <= lastYear; year++) {
                    int place = keptIn(feasts[k], year) - from;
                    if (place >= 0 && place < days && place < sets.length) {
                        sets[place] |= 1 << k;
                    }
                }
            }
        }

        private int feastsOf(int town) {
            int set = 0;
            for (int k = 0; k < feastsAdded; k++) {
                if (feasts[k].town == town) {
                    set |= 1 << k;
                }
            }
            return set;
        }

        int countQuarrels(int[] sets, int days) {
            int feastsOfA = feastsOf(0);
            int feastsOfB = feastsOf(1);
            int count = 0;
            for (int i = 0; i < days && i < sets.length; i++) {
                if ((sets[i] & feastsOfA) != 0 && (sets[i] & feastsOfB) != 0) {
                    count++;
                }
            }
            return count;
        }

        /** Counts the feasts and the copies of days that pass. */
        void countPassed(int[] sets, int days) {
            int feastsOfA = feastsOf(0);
            int feastsOfB = feastsOf(1);
            for (int i = 0; i < days && i < sets.length; i++) {
                townA.keptCount += Integer.bitCount(sets[i] & feastsOfA);
                townB.keptCount += Integer.bitCount(sets[i] & feastsOfB);
                if (sets[i] == 0) {
                    copies += copiesEachDay;
                }
            }
        }
    }

    /** The text, and how a date is written in it. */
    private static final class DateText {
        private static final int LETTER = 0;
        private static final int DAY = 1;
        private static final int MONTH = 2;
        private static final int YEAR = 3;

        private final int[] codes = new int[MOST_TEXT];
        private int length = 0;

        void put(int code) {
            if (length < MOST_TEXT) {
                codes[length] = code;
                length++;
            }
        }

        // Two digits are enough: no day that can be written has a year above 60.
        void putNumber(int number) {
            if (number >= 10) {
                put('0' + number / 10);
            }
            put('0' + number % 10);
        }

        int firstError() {
            int part = LETTER;
            int digits = 0;
            for (int i = 0; i < length; i++) {
                if (!fits(codes[i], part, digits)) {
                    return i;
                }
                if (part == LETTER || codes[i] == '.') {
                    part++;
                    digits = 0;
                } else {
                    digits++;
                }
            }
            return part == YEAR && digits > 0 ? NONE : length;
        }

        /** Tells whether a character can follow so many digits of a part. */
        private static boolean fits(int code, int part, int digits) {
            if (part == LETTER) {
                return code == 'A' || code == 'B';
            }
            if (code == '.') {
                return part != YEAR && digits > 0;
            }
            int least = digits == 0 ? '1' : '0';
            int mostDigits = part == YEAR ? 3 : 2;
            return code >= least && code <= '9' && digits < mostDigits;
        }

        /** The town of a text without an error. */
        int town() {
            return length > 0 && codes[0] == 'A' ? 0 : 1;
        }

        /** The number of a part of a text without an error. */
        int number(int wanted) {
            int part = DAY;
            int number = 0;
            for (int i = 1; i < length; i++) {
                if (codes[i] == '.') {
                    part++;
                } else if (part == wanted) {
                    number = number * 10 + codes[i] - '0';
                }
            }
            return number;
        }
    }
}
