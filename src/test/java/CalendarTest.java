/** Promises 2 to 11: gaps and the calendars of the towns, by examples; CalendarEdgesTest has the boundaries. */
public final class CalendarTest {
    public static void main(String[] args) {
        gapsAreAdded();
        gapsAreTold();
        monthsHaveLengths();
        daysHaveDates();
        gapsMoveDates();
        daysHaveWeekdays();
        datesHaveDays();
        leftOutDatesHaveNoDay();
        Check.end("CalendarTest");
    }

    private static void gapsAreAdded() {
        TwoTownAlmanac x = new TwoTownAlmanac();
        Check.due(2, "addGap(0, 0, 1)", x.addGap(0, 0, 1), 1);
        Check.due(2, "addGap(0, 1, 40)", x.addGap(0, 1, 40), 2);
        Check.due(2, "addGap(0, 9999, 7)", x.addGap(0, 9999, 7), 3);
        Check.due(2, "addGap(1, 0, 2)", x.addGap(1, 0, 2), 1);
        Check.due(2, "undoCount()", x.undoCount(), 4);
        Check.due(3, "gapCount(0)", x.gapCount(0), 3);
        Check.due(3, "gapCount(1)", x.gapCount(1), 1);
        TwoTownAlmanac past = new TwoTownAlmanac();
        past.passDays(100);
        Check.due(2, "addGap before today", past.addGap(0, 20, 5), 1);
        Check.due(7, "dayOfMonth of a day passed", past.dayOfMonth(0, 21), 27);
    }

    private static void gapsAreTold() {
        TwoTownAlmanac x = Make.withGaps(1, 0, 1, 50, 40, 9999, 7);
        int[] days = {0, 50, 9999};
        int[] lengths = {1, 40, 7};
        for (int gap = 0; gap < 3; gap++) {
            Check.due(4, "gapDay(1, " + gap + ")", x.gapDay(1, gap), days[gap]);
            Check.due(5, "gapLength(1, " + gap + ")", x.gapLength(1, gap), lengths[gap]);
        }
    }

    private static void monthsHaveLengths() {
        TwoTownAlmanac x = Make.withGaps(0, 3, 40);
        for (int month = 1; month <= 12; month++) {
            Check.due(6, "monthLength(0, " + month + ")", x.monthLength(0, month), month % 2 == 1 ? 30 : 31);
            Check.due(6, "monthLength(1, " + month + ")", x.monthLength(1, month), 28);
        }
    }

    private static void daysHaveDates() {
        TwoTownAlmanac x = new TwoTownAlmanac();
        Check.date(x, 0, 0, 1, 1, 1);
        Check.date(x, 0, 29, 30, 1, 1);
        Check.date(x, 0, 30, 1, 2, 1);
        Check.date(x, 0, 60, 31, 2, 1);
        Check.date(x, 0, 61, 1, 3, 1);
        Check.date(x, 0, 334, 30, 11, 1);
        Check.date(x, 0, 335, 1, 12, 1);
        Check.date(x, 0, 365, 31, 12, 1);
        Check.date(x, 0, 366, 1, 1, 2);
        Check.date(x, 0, 20000, 24, 8, 55);
        Check.date(x, 1, 0, 1, 1, 1);
        Check.date(x, 1, 27, 28, 1, 1);
        Check.date(x, 1, 28, 1, 2, 1);
        Check.date(x, 1, 335, 28, 12, 1);
        Check.date(x, 1, 336, 1, 1, 2);
        Check.date(x, 1, 20000, 9, 7, 60);
    }

    private static void gapsMoveDates() {
        TwoTownAlmanac x = Make.withGaps(0, 5, 10, 6, 3, 9999, 40);
        Check.date(x, 0, 5, 6, 1, 1);
        Check.date(x, 0, 6, 17, 1, 1);
        Check.date(x, 0, 7, 21, 1, 1);
        Check.date(x, 1, 7, 8, 1, 1);
        Check.date(x, 0, 16, 30, 1, 1);
        Check.date(x, 0, 17, 1, 2, 1);
        Check.date(x, 0, 352, 31, 12, 1);
        Check.date(x, 0, 353, 1, 1, 2);
        // 9999 + 13 = 27 * 366 + 130, and 40 days are left out behind it
        Check.date(x, 0, 9999, 9, 5, 28);
        Check.date(x, 0, 10000, 20, 6, 28);
        Check.date(Make.withGaps(1, 0, 40, 1, 40, 2, 40), 1, 20000, 17, 11, 60);
        Check.date(Make.withGaps(1, 0, 40), 1, 0, 1, 1, 1);
        Check.date(Make.withGaps(1, 0, 40), 1, 1, 14, 2, 1);
    }

    private static void daysHaveWeekdays() {
        TwoTownAlmanac x = Make.withGaps(0, 3, 5);
        int[] days = {0, 1, 3, 4, 6, 7, 13, 14, 20000};
        int[] weekdays = {0, 1, 3, 4, 6, 0, 6, 0, 1};
        for (int i = 0; i < days.length; i++) {
            Check.due(10, "weekday(" + days[i] + ")", x.weekday(days[i]), weekdays[i]);
        }
    }

    private static void day(TwoTownAlmanac x, int town, int year, int month, int dayOfMonth, int want) {
        String call = "dayOfDate(" + town + ", " + year + ", " + month + ", " + dayOfMonth + ")";
        Check.due(11, call, x.dayOfDate(town, year, month, dayOfMonth), want);
    }

    private static void datesHaveDays() {
        TwoTownAlmanac x = new TwoTownAlmanac();
        day(x, 0, 1, 1, 1, 0);
        day(x, 0, 1, 1, 30, 29);
        day(x, 0, 1, 1, 31, -1);
        day(x, 0, 1, 2, 31, 60);
        day(x, 0, 1, 12, 31, 365);
        day(x, 0, 2, 1, 1, 366);
        day(x, 0, 60, 12, 31, 21959);
        day(x, 1, 1, 1, 28, 27);
        day(x, 1, 1, 1, 29, -1);
        day(x, 1, 1, 12, 31, -1);
        day(x, 1, 2, 1, 1, 336);
        day(x, 1, 60, 12, 28, 20159);
    }

    private static void leftOutDatesHaveNoDay() {
        TwoTownAlmanac x = Make.withGaps(0, 5, 10, 6, 3);
        day(x, 0, 1, 1, 6, 5);
        for (int left = 7; left <= 16; left++) {
            day(x, 0, 1, 1, left, -1);
        }
        day(x, 0, 1, 1, 17, 6);
        day(x, 0, 1, 1, 18, -1);
        day(x, 0, 1, 1, 20, -1);
        day(x, 0, 1, 1, 21, 7);
        day(x, 0, 60, 12, 31, 21959 - 13);
        day(x, 1, 1, 1, 7, 6);
    }
}
