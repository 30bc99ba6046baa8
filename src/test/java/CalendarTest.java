import java.util.function.Consumer;
import java.util.function.Supplier;

/** Promises 2 to 11: gaps and the calendars of the towns. */
public final class CalendarTest {
    private static final Class<IndexOutOfBoundsException> INDEX = IndexOutOfBoundsException.class;
    private static final Class<IllegalArgumentException> ARGUMENT = IllegalArgumentException.class;
    private static final Class<IllegalStateException> STATE = IllegalStateException.class;
    private static final int[] NO_TOWNS = {-1, 2, Integer.MIN_VALUE, Integer.MAX_VALUE};
    private static final int[] NO_DAYS = {-1, 20001, Integer.MIN_VALUE, Integer.MAX_VALUE};

    public static void main(String[] args) {
        gapsAreAdded();
        gapsAreRefused();
        gapsAreTold();
        monthsHaveLengths();
        daysHaveDates();
        gapsMoveDates();
        daysHaveWeekdays();
        datesHaveDays();
        leftOutDatesHaveNoDay();
        wrongTownsAndDays();
        Check.end("CalendarTest");
    }

    private static TwoTownAlmanac withGaps(int town, int... daysAndLengths) {
        TwoTownAlmanac x = new TwoTownAlmanac();
        for (int i = 0; i < daysAndLengths.length; i += 2) {
            x.addGap(town, daysAndLengths[i], daysAndLengths[i + 1]);
        }
        return x;
    }

    private static void gapsAreAdded() {
        TwoTownAlmanac x = new TwoTownAlmanac();
        Check.due(2, "addGap(0, 0, 1)", x.addGap(0, 0, 1), 1);
        Check.due(2, "addGap(0, 1, 40)", x.addGap(0, 1, 40), 2);
        Check.due(2, "addGap(0, 9999, 7)", x.addGap(0, 9999, 7), 3);
        Check.due(2, "addGap(1, 0, 2)", x.addGap(1, 0, 2), 1);
        Check.due(2, "undoCount()", x.undoCount(), 4);
        Check.due(3, "gapCount(0)", x.gapCount(0), 3);
        Check.due(3, "gapCount(1)", x.gapCount(1), 1);
        TwoTownAlmanac past = new TwoTownAlmanac();
        past.passDays(100);
        Check.due(2, "addGap before today", past.addGap(0, 20, 5), 1);
        Check.due(7, "dayOfMonth of a day passed", past.dayOfMonth(0, 21), 27);
    }

    private static void gapsAreRefused() {
        Supplier<TwoTownAlmanac> one = () -> withGaps(0, 50, 5);
        Supplier<TwoTownAlmanac> full = () -> withGaps(0, 50, 5, 60, 6, 70, 7);
        for (int town : NO_TOWNS) {
            Check.refused(2, "addGap(" + town + ", 60, 1)", INDEX, one, x -> x.addGap(town, 60, 1));
        }
        Check.refused(2, "addGap(2, -1, 0)", INDEX, one, x -> x.addGap(2, -1, 0));
        for (int day : new int[] {-1, 0, 49, 50, 10000, Integer.MIN_VALUE, Integer.MAX_VALUE}) {
            Check.refused(2, "addGap(0, " + day + ", 1)", ARGUMENT, one, x -> x.addGap(0, day, 1));
        }
        for (int length : new int[] {0, -1, 41, Integer.MIN_VALUE, Integer.MAX_VALUE}) {
            Check.refused(2, "addGap(0, 60, " + length + ")", ARGUMENT, one, x -> x.addGap(0, 60, length));
        }
        Check.refused(2, "addGap of a fourth gap", STATE, full, x -> x.addGap(0, 80, 1));
        Check.refused(2, "addGap of a fourth gap, not later", ARGUMENT, full, x -> x.addGap(0, 70, 1));
        Check.refused(2, "addGap of a fourth gap, too long", ARGUMENT, full, x -> x.addGap(0, 80, 41));
        Check.refused(2, "addGap of a fourth gap, no town", INDEX, full, x -> x.addGap(-1, 80, 1));
    }

    private static void gapsAreTold() {
        TwoTownAlmanac x = withGaps(1, 0, 1, 50, 40, 9999, 7);
        int[] days = {0, 50, 9999};
        int[] lengths = {1, 40, 7};
        for (int gap = 0; gap < 3; gap++) {
            Check.due(4, "gapDay(1, " + gap + ")", x.gapDay(1, gap), days[gap]);
            Check.due(5, "gapLength(1, " + gap + ")", x.gapLength(1, gap), lengths[gap]);
        }
        Supplier<TwoTownAlmanac> two = () -> withGaps(1, 3, 4, 5, 6);
        for (int gap : new int[] {-1, 2, 3, Integer.MIN_VALUE, Integer.MAX_VALUE}) {
            Check.refused(4, "gapDay(1, " + gap + ")", INDEX, two, y -> y.gapDay(1, gap));
            Check.refused(5, "gapLength(1, " + gap + ")", INDEX, two, y -> y.gapLength(1, gap));
        }
        Check.refused(4, "gapDay(0, 0)", INDEX, two, y -> y.gapDay(0, 0));
        Check.refused(5, "gapLength(0, 0)", INDEX, two, y -> y.gapLength(0, 0));
    }

    private static void monthsHaveLengths() {
        TwoTownAlmanac x = withGaps(0, 3, 40);
        for (int month = 1; month <= 12; month++) {
            Check.due(6, "monthLength(0, " + month + ")", x.monthLength(0, month), month % 2 == 1 ? 30 : 31);
            Check.due(6, "monthLength(1, " + month + ")", x.monthLength(1, month), 28);
        }
        for (int month : new int[] {0, -1, 13, Integer.MIN_VALUE, Integer.MAX_VALUE}) {
            Check.refused(6, "monthLength(0, " + month + ")", ARGUMENT, TwoTownAlmanac::new,
                    y -> y.monthLength(0, month));
        }
        Check.refused(6, "monthLength(2, 13)", INDEX, TwoTownAlmanac::new, y -> y.monthLength(2, 13));
    }

    private static void date(TwoTownAlmanac x, int town, int day, int dayOfMonth, int month, int year) {
        String of = "(" + town + ", " + day + ")";
        Check.due(7, "dayOfMonth" + of, x.dayOfMonth(town, day), dayOfMonth);
        Check.due(8, "monthOf" + of, x.monthOf(town, day), month);
        Check.due(9, "yearOf" + of, x.yearOf(town, day), year);
    }

    private static void daysHaveDates() {
        TwoTownAlmanac x = new TwoTownAlmanac();
        date(x, 0, 0, 1, 1, 1);
        date(x, 0, 29, 30, 1, 1);
        date(x, 0, 30, 1, 2, 1);
        date(x, 0, 60, 31, 2, 1);
        date(x, 0, 61, 1, 3, 1);
        date(x, 0, 334, 30, 11, 1);
        date(x, 0, 335, 1, 12, 1);
        date(x, 0, 365, 31, 12, 1);
        date(x, 0, 366, 1, 1, 2);
        date(x, 0, 20000, 24, 8, 55);
        date(x, 1, 0, 1, 1, 1);
        date(x, 1, 27, 28, 1, 1);
        date(x, 1, 28, 1, 2, 1);
        date(x, 1, 335, 28, 12, 1);
        date(x, 1, 336, 1, 1, 2);
        date(x, 1, 20000, 9, 7, 60);
    }

    private static void gapsMoveDates() {
        TwoTownAlmanac x = withGaps(0, 5, 10, 6, 3, 9999, 40);
        date(x, 0, 5, 6, 1, 1);
        date(x, 0, 6, 17, 1, 1);
        date(x, 0, 7, 21, 1, 1);
        date(x, 1, 7, 8, 1, 1);
        date(x, 0, 16, 30, 1, 1);
        date(x, 0, 17, 1, 2, 1);
        date(x, 0, 352, 31, 12, 1);
        date(x, 0, 353, 1, 1, 2);
        // 9999 + 13 = 27 * 366 + 130, and 40 days are left out behind it
        date(x, 0, 9999, 9, 5, 28);
        date(x, 0, 10000, 20, 6, 28);
        date(withGaps(1, 0, 40, 1, 40, 2, 40), 1, 20000, 17, 11, 60);
        date(withGaps(1, 0, 40), 1, 0, 1, 1, 1);
        date(withGaps(1, 0, 40), 1, 1, 14, 2, 1);
    }

    private static void daysHaveWeekdays() {
        TwoTownAlmanac x = withGaps(0, 3, 5);
        int[] days = {0, 1, 3, 4, 6, 7, 13, 14, 20000};
        int[] weekdays = {0, 1, 3, 4, 6, 0, 6, 0, 1};
        for (int i = 0; i < days.length; i++) {
            Check.due(10, "weekday(" + days[i] + ")", x.weekday(days[i]), weekdays[i]);
        }
        for (int day : NO_DAYS) {
            Check.refused(10, "weekday(" + day + ")", ARGUMENT, TwoTownAlmanac::new, y -> y.weekday(day));
        }
    }

    private static void day(TwoTownAlmanac x, int town, int year, int month, int dayOfMonth, int want) {
        String call = "dayOfDate(" + town + ", " + year + ", " + month + ", " + dayOfMonth + ")";
        Check.due(11, call, x.dayOfDate(town, year, month, dayOfMonth), want);
    }

    private static void datesHaveDays() {
        TwoTownAlmanac x = new TwoTownAlmanac();
        day(x, 0, 1, 1, 1, 0);
        day(x, 0, 1, 1, 30, 29);
        day(x, 0, 1, 1, 31, -1);
        day(x, 0, 1, 2, 31, 60);
        day(x, 0, 1, 12, 31, 365);
        day(x, 0, 2, 1, 1, 366);
        day(x, 0, 60, 12, 31, 21959);
        day(x, 1, 1, 1, 28, 27);
        day(x, 1, 1, 1, 29, -1);
        day(x, 1, 1, 12, 31, -1);
        day(x, 1, 2, 1, 1, 336);
        day(x, 1, 60, 12, 28, 20159);
        refusedDate(ARGUMENT, 0, 0, 1, 1);
        refusedDate(ARGUMENT, 0, 61, 1, 1);
        refusedDate(ARGUMENT, 0, 1, 0, 1);
        refusedDate(ARGUMENT, 0, 1, 13, 1);
        refusedDate(ARGUMENT, 0, 1, 1, 0);
        refusedDate(ARGUMENT, 1, 1, 1, 32);
        refusedDate(ARGUMENT, 1, Integer.MIN_VALUE, Integer.MAX_VALUE, Integer.MIN_VALUE);
        refusedDate(INDEX, -1, 1, 1, 1);
        refusedDate(INDEX, 2, 0, 13, 32);
    }

    private static void refusedDate(Class<? extends RuntimeException> due, int town, int year, int month, int day) {
        Check.refused(11, "dayOfDate(" + town + ", " + year + ", " + month + ", " + day + ")", due,
                TwoTownAlmanac::new, x -> x.dayOfDate(town, year, month, day));
    }

    private static void leftOutDatesHaveNoDay() {
        TwoTownAlmanac x = withGaps(0, 5, 10, 6, 3);
        day(x, 0, 1, 1, 6, 5);
        for (int left = 7; left <= 16; left++) {
            day(x, 0, 1, 1, left, -1);
        }
        day(x, 0, 1, 1, 17, 6);
        day(x, 0, 1, 1, 18, -1);
        day(x, 0, 1, 1, 20, -1);
        day(x, 0, 1, 1, 21, 7);
        day(x, 0, 60, 12, 31, 21959 - 13);
        day(x, 1, 1, 1, 7, 6);
    }

    private static void wrongTownsAndDays() {
        Supplier<TwoTownAlmanac> made = () -> withGaps(0, 3, 5);
        for (int town : NO_TOWNS) {
            String of = "(" + town + ", 0)";
            Check.refused(3, "gapCount(" + town + ")", INDEX, made, x -> x.gapCount(town));
            Check.refused(4, "gapDay" + of, INDEX, made, x -> x.gapDay(town, 0));
            Check.refused(5, "gapLength" + of, INDEX, made, x -> x.gapLength(town, 0));
            Check.refused(6, "monthLength" + of, INDEX, made, x -> x.monthLength(town, 1));
            refusedDay(INDEX, town, 0);
            refusedDay(INDEX, town, -1);
        }
        for (int day : NO_DAYS) {
            refusedDay(ARGUMENT, 0, day);
            refusedDay(ARGUMENT, 1, day);
        }
    }

    private static void refusedDay(Class<? extends RuntimeException> due, int town, int day) {
        String of = "(" + town + ", " + day + ")";
        refusedDay(7, "dayOfMonth" + of, due, x -> x.dayOfMonth(town, day));
        refusedDay(8, "monthOf" + of, due, x -> x.monthOf(town, day));
        refusedDay(9, "yearOf" + of, due, x -> x.yearOf(town, day));
    }

    private static void refusedDay(int promise, String call, Class<? extends RuntimeException> due,
            Consumer<TwoTownAlmanac> act) {
        Check.refused(promise, call, due, () -> withGaps(0, 3, 5), act);
    }
}
