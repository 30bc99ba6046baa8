import java.util.function.IntSupplier;

/** Long runs of calls with mixed arguments: each answer must be the plain model's. */
public final class ModelTest {
    private static final int RUNS = 250;
    private static final int MOST_CALLS = 512;
    private static final int KINDS = 45;
    private static final int INDEX = -1001;
    private static final int ARGUMENT = -1002;
    private static final int STATE = -1003;

    private final int run;
    private final TwoTownAlmanac real = new TwoTownAlmanac();
    private final PlainModel model = new PlainModel();
    private long seed;
    private boolean early;
    private int calls = 0;

    private ModelTest(int run) {
        this.run = run;
        this.seed = run * 7919L + 17;
    }

    public static void main(String[] args) {
        for (int run = 0; run < RUNS; run++) {
            new ModelTest(run).go();
        }
        Check.end("ModelTest");
    }

    private void go() {
        // one kind makes at most three calls
        while (calls <= MOST_CALLS - 3) {
            early = run % 2 == 0 || calls < 40;
            int kind = pick(0, KINDS - 1);
            // two runs of three begin with many gaps and feasts
            if (calls < 30 && run % 3 != 0) {
                kind = new int[] {10, 10, 11, 0, 17, 21}[pick(0, 5)];
            }
            play(kind);
        }
    }

    /** The same numbers in every run of the test. */
    private int pick(int least, int most) {
        seed = seed * 6364136223846793005L + 1442695040888963407L;
        return least + (int) ((seed >>> 33) % (most - least + 1));
    }

    /** Mostly a number of the range, now and then one outside it. */
    private int near(int least, int most) {
        int way = pick(0, 39);
        if (way == 0) {
            return least - 1;
        }
        if (way == 1) {
            return most + 1;
        }
        if (way == 2) {
            return pick(0, 1) == 0 ? Integer.MIN_VALUE : Integer.MAX_VALUE;
        }
        if (way < 6) {
            return pick(0, 1) == 0 ? least : most;
        }
        return pick(least, most);
    }

    private int nearDay(int most) {
        int way = pick(0, 3);
        if (way == 0) {
            return near(0, most);
        }
        return way == 1 ? near(0, 800) : Math.min(most, Math.max(0, model.today() + pick(-20, 420)));
    }

    private int nearFeast() {
        return near(0, Math.max(0, model.feastCount() - 1));
    }

    private static boolean in(int value, int least, int most) {
        return value >= least && value <= most;
    }

    private boolean isFeast(int feast) {
        return in(feast, 0, model.feastCount() - 1);
    }

    private int got(IntSupplier call) {
        try {
            return call.getAsInt();
        } catch (RuntimeException e) {
            if (e.getClass() == IndexOutOfBoundsException.class) {
                return INDEX;
            }
            if (e.getClass() == IllegalArgumentException.class) {
                return ARGUMENT;
            }
            return e.getClass() == IllegalStateException.class ? STATE : -1004;
        }
    }

    private void same(int promise, String call, IntSupplier realCall, int refusal, IntSupplier modelCall) {
        calls++;
        int want = refusal != 0 ? refusal : modelCall.getAsInt();
        Check.due(promise, "run " + run + ": " + call, got(realCall), want);
    }

    private static int first(boolean index, boolean argument, boolean state) {
        if (!index) {
            return INDEX;
        }
        if (!argument) {
            return ARGUMENT;
        }
        return state ? 0 : STATE;
    }

    private void play(int kind) {
        if (kind < 10) {
            playCalendar(kind);
        } else if (kind < 21) {
            playFeast(kind);
        } else if (kind < 34) {
            playDays(kind);
        } else if (kind < 41) {
            playText(kind);
        } else {
            playHistory(kind);
        }
    }

    private void playCalendar(int kind) {
        int town = near(0, 1);
        int day = nearDay(20000);
        boolean isTown = in(town, 0, 1);
        int dayRefusal = first(isTown, in(day, 0, 20000), true);
        String of = "(" + town + ", " + day + ")";
        switch (kind) {
            case 0 -> addGap(town);
            case 1 -> same(3, "gapCount(" + town + ")", () -> real.gapCount(town), first(isTown, true, true),
                    () -> model.gapCount(town));
            case 2, 3 -> gapParts(town, near(0, 2));
            case 4 -> monthLength(town, near(1, 12));
            case 5 -> same(7, "dayOfMonth" + of, () -> real.dayOfMonth(town, day), dayRefusal,
                    () -> model.dayOfMonth(town, day));
            case 6 -> same(8, "monthOf" + of, () -> real.monthOf(town, day), dayRefusal,
                    () -> model.monthOf(town, day));
            case 7 -> same(9, "yearOf" + of, () -> real.yearOf(town, day), dayRefusal,
                    () -> model.yearOf(town, day));
            case 8 -> same(10, "weekday(" + day + ")", () -> real.weekday(day), first(true, in(day, 0, 20000), true),
                    () -> day % 7);
            default -> dayOfDate(town, day);
        }
    }

    private void addGap(int town) {
        boolean isTown = in(town, 0, 1);
        int gaps = isTown ? model.gapCount(town) : 0;
        int latest = gaps == 0 ? -1 : model.gapDay(town, gaps - 1);
        int afterDay = pick(0, 2) == 0 ? near(0, 9999) : latest + pick(0, early ? 300 : 2000);
        int length = near(1, 40);
        boolean proper = in(afterDay, 0, 9999) && in(length, 1, 40) && afterDay > latest;
        same(2, "addGap(" + town + ", " + afterDay + ", " + length + ")", () -> real.addGap(town, afterDay, length),
                first(isTown, proper, gaps < 3), () -> model.addGap(town, afterDay, length));
    }

    private void gapParts(int town, int gap) {
        boolean isGap = in(town, 0, 1) && in(gap, 0, model.gapCount(town) - 1);
        String of = "(" + town + ", " + gap + ")";
        same(4, "gapDay" + of, () -> real.gapDay(town, gap), first(isGap, true, true),
                () -> model.gapDay(town, gap));
        same(5, "gapLength" + of, () -> real.gapLength(town, gap), first(isGap, true, true),
                () -> model.gapLength(town, gap));
    }

    private void monthLength(int town, int month) {
        same(6, "monthLength(" + town + ", " + month + ")", () -> real.monthLength(town, month),
                first(in(town, 0, 1), in(month, 1, 12), true), () -> PlainModel.monthLength(town, month));
    }

    private void dayOfDate(int town, int day) {
        boolean ofADay = in(town, 0, 1) && in(day, 0, 20000) && pick(0, 1) == 0;
        int year = ofADay ? model.yearOf(town, day) : near(1, 60);
        int month = ofADay ? model.monthOf(town, day) : near(1, 12);
        int dayOfMonth = ofADay ? model.dayOfMonth(town, day) : near(1, 31);
        boolean proper = in(year, 1, 60) && in(month, 1, 12) && in(dayOfMonth, 1, 31);
        same(11, "dayOfDate(" + town + ", " + year + ", " + month + ", " + dayOfMonth + ")",
                () -> real.dayOfDate(town, year, month, dayOfMonth), first(in(town, 0, 1), proper, true),
                () -> model.dayOfDate(town, year, month, dayOfMonth));
    }

    private void playFeast(int kind) {
        int feast = nearFeast();
        int year = pick(0, 1) == 0 ? near(1, 60) : near(1, 3);
        int day = nearDay(20000);
        boolean isFeast = isFeast(feast);
        String of = "(" + feast + ", ";
        switch (kind) {
            case 10 -> addFeast();
            case 11 -> barWeekday(feast, near(0, 6));
            case 12 -> same(14, "allowAllWeekdays(" + feast + ")", () -> real.allowAllWeekdays(feast),
                    first(isFeast, true, !isFeast || model.barredWeekday(feast) >= 0),
                    () -> model.allowAllWeekdays(feast));
            case 13 -> same(15, "feastCount()", real::feastCount, 0, model::feastCount);
            case 14 -> same(16, "feastTown(" + feast + ")", () -> real.feastTown(feast), first(isFeast, true, true),
                    () -> model.feastTown(feast));
            case 15 -> same(17, "barredWeekday(" + feast + ")", () -> real.barredWeekday(feast),
                    first(isFeast, true, true), () -> model.barredWeekday(feast));
            case 16 -> same(18, "dayDue" + of + year + ")", () -> real.dayDue(feast, year),
                    first(isFeast, in(year, 1, 60), true), () -> model.dayDue(feast, year));
            case 17 -> same(19, "dayKept" + of + year + ")", () -> real.dayKept(feast, year),
                    first(isFeast, in(year, 1, 60), true), () -> model.dayKept(feast, year));
            case 18 -> isKept(feast, day, year);
            case 19 -> same(21, "feastsOn(" + day + ")", () -> real.feastsOn(day),
                    first(true, in(day, 0, 20000), true), () -> model.feastsOn(day));
            default -> same(22, "isQuarrel(" + day + ")", () -> real.isQuarrel(day) ? 1 : 0,
                    first(true, in(day, 0, 20000), true), () -> model.isQuarrel(day) ? 1 : 0);
        }
    }

    private void addFeast() {
        int town = near(0, 1);
        int month = pick(0, 2) == 0 ? near(1, 12) : pick(0, 1) * 11 + 1;
        int dayOfMonth = pick(0, 2) == 0 ? near(1, 31) : pick(0, 1) * 24 + pick(1, 7);
        boolean proper = in(month, 1, 12) && in(dayOfMonth, 1, 31);
        same(12, "addFeast(" + town + ", " + month + ", " + dayOfMonth + ")",
                () -> real.addFeast(town, month, dayOfMonth),
                first(in(town, 0, 1), proper, model.feastCount() < 10),
                () -> model.addFeast(town, month, dayOfMonth));
    }

    private void barWeekday(int feast, int weekday) {
        same(13, "barWeekday(" + feast + ", " + weekday + ")", () -> real.barWeekday(feast, weekday),
                first(isFeast(feast), in(weekday, 0, 6), true), () -> model.barWeekday(feast, weekday));
    }

    private void isKept(int feast, int someDay, int year) {
        boolean hasYear = isFeast(feast) && in(year, 1, 55) && model.dayKept(feast, year) >= 0;
        int day = hasYear ? Math.max(0, model.dayKept(feast, year) - pick(0, 1) * pick(0, 9)) : someDay;
        same(20, "isKept(" + feast + ", " + day + ")", () -> real.isKept(feast, day) ? 1 : 0,
                first(isFeast(feast), in(day, 0, 20000), true), () -> model.isKept(feast, day) ? 1 : 0);
    }

    private void playDays(int kind) {
        int feast = nearFeast();
        int other = nearFeast();
        int town = near(0, 1);
        int days = pick(0, 1) == 0 || !early ? near(1, 400) : near(1, 30);
        int small = near(1, 9);
        switch (kind) {
            case 21 -> same(23, "setShift(" + small + ")", () -> real.setShift(small),
                    first(true, in(small, 1, 9), true), () -> model.setShift(small));
            case 22 -> same(24, "shift()", real::shift, 0, model::shift);
            case 23 -> same(25, "setCopiesPerDay(" + small + ")", () -> real.setCopiesPerDay(small),
                    first(true, in(small, 0, 9), true), () -> model.setCopiesPerDay(small));
            case 24 -> same(26, "copiesPerDay()", real::copiesPerDay, 0, model::copiesPerDay);
            case 25 -> same(27, "passDays(" + days + ")", () -> real.passDays(days),
                    first(true, in(days, 1, 400), model.today() + Math.min(days, 400) <= 9999),
                    () -> model.passDays(days));
            case 26 -> same(28, "today()", real::today, 0, model::today);
            case 27 -> same(29, "feastsKept(" + town + ")", () -> real.feastsKept(town),
                    first(in(town, 0, 1), true, true), () -> model.feastsKept(town));
            case 28 -> same(30, "quarrelCount()", real::quarrelCount, 0, model::quarrelCount);
            case 29 -> same(31, "copiesMade()", real::copiesMade, 0, model::copiesMade);
            case 30 -> same(32, "nextDay(" + feast + ")", () -> real.nextDay(feast),
                    first(isFeast(feast), true, true), () -> model.nextDay(feast));
            case 31 -> same(33, "daysUntilMeeting(" + feast + ", " + other + ")",
                    () -> real.daysUntilMeeting(feast, other),
                    first(isFeast(feast) && isFeast(other), feast != other, true),
                    () -> model.daysUntilMeeting(feast, other));
            case 32 -> same(34, "quarrelsWithin(" + days + ")", () -> real.quarrelsWithin(days),
                    first(true, in(days, 1, 400), true), () -> model.quarrelsWithin(days));
            default -> same(35, "bestBarredWeekday(" + feast + ")", () -> real.bestBarredWeekday(feast),
                    first(isFeast(feast), true, true), () -> model.bestBarredWeekday(feast));
        }
    }

    private void playText(int kind) {
        int index = near(0, Math.max(0, model.textLength() - 1));
        int town = near(0, 1);
        int day = nearDay(20000);
        switch (kind) {
            case 34 -> appendText();
            case 35 -> same(37, "clearText()", real::clearText, 0, model::clearText);
            case 36 -> same(38, "textLength()", real::textLength, 0, model::textLength);
            case 37 -> same(39, "textError()", real::textError, 0, model::textError);
            case 38 -> same(40, "textCharacter(" + index + ")", () -> real.textCharacter(index),
                    first(in(index, 0, model.textLength() - 1), true, true), () -> model.textCharacter(index));
            case 39 -> same(41, "dayOfText()", real::dayOfText, first(true, true, model.textError() == -1),
                    model::dayOfText);
            default -> same(42, "writeDate(" + town + ", " + day + ")", () -> real.writeDate(town, day),
                    first(in(town, 0, 1), in(day, 0, 20000), true), () -> model.writeDate(town, day));
        }
    }

    /** Appends a piece that may go on with the text, or characters as they come. */
    private void appendText() {
        StringBuilder piece = new StringBuilder();
        if (pick(0, 3) == 0) {
            same(37, "clearText()", real::clearText, 0, model::clearText);
        }
        int length = pick(1, 8);
        boolean fresh = model.textLength() == 0;
        for (int i = 0; i < length; i++) {
            String from = fresh && i == 0 ? "AB" : i % 2 == 0 || pick(0, 2) == 0 ? "..1" : "0112349";
            piece.append(pick(0, 60) == 0 ? (char) pick(33, 126) : from.charAt(pick(0, from.length() - 1)));
        }
        long number = 0;
        for (int i = 0; i < length; i++) {
            number = number << 8 | piece.charAt(i);
        }
        long characters = number;
        same(36, "appendText of " + piece, () -> real.appendText(characters),
                first(true, true, model.textLength() + length <= 80), () -> model.appendText(piece.toString()));
        same(39, "textError()", real::textError, 0, model::textError);
    }

    private void playHistory(int kind) {
        int slot = near(0, 1);
        switch (kind) {
            case 41 -> same(43, "undo()", real::undo, first(true, true, model.undoCount() > 0), model::undo);
            case 42 -> same(44, "undoCount()", real::undoCount, 0, model::undoCount);
            case 43 -> same(45, "saveState(" + slot + ")", () -> real.saveState(slot),
                    first(in(slot, 0, 1), true, true), () -> model.saveState(slot));
            default -> same(46, "loadState(" + slot + ")", () -> real.loadState(slot),
                    first(in(slot, 0, 1), true, !in(slot, 0, 1) || model.isSaved(slot)),
                    () -> model.loadState(slot));
        }
    }
}
