/** Promises 12 to 22: feasts, when they are due and kept, by examples; FeastEdgesTest has the boundaries. */
public final class FeastTest {
    public static void main(String[] args) {
        feastsAreAdded();
        weekdaysAreBarred();
        feastsAreDue();
        feastsOfLeftOutDatesAreDueLater();
        barredFeastsAreKeptLater();
        feastsMayBeKeptInTheNextYear();
        feastsAreOnDays();
        townsQuarrel();
        Check.end("FeastTest");
    }

    /** Two feasts, the second with weekday 3 barred. */
    private static TwoTownAlmanac withTwo() {
        TwoTownAlmanac x = new TwoTownAlmanac();
        x.addFeast(0, 1, 1);
        x.addFeast(1, 1, 4);
        x.barWeekday(1, 3);
        return x;
    }

    private static void feastsAreAdded() {
        TwoTownAlmanac x = new TwoTownAlmanac();
        int[] towns = {0, 1, 1, 0, 0, 1, 0, 1, 1, 1};
        for (int i = 0; i < 10; i++) {
            Check.due(15, "feastCount()", x.feastCount(), i);
            Check.due(12, "addFeast no. " + i, x.addFeast(towns[i], i == 0 ? 12 : 1, i == 1 ? 31 : i + 1), i);
        }
        Check.due(15, "feastCount()", x.feastCount(), 10);
        Check.due(12, "undoCount()", x.undoCount(), 6);
        for (int i = 0; i < 10; i++) {
            Check.due(16, "feastTown(" + i + ")", x.feastTown(i), towns[i]);
            Check.due(17, "barredWeekday(" + i + ")", x.barredWeekday(i), -1);
        }
        Check.due(12, "dayDue(0, 1)", x.dayDue(0, 1), 335);
        Check.due(12, "dayDue(1, 1)", x.dayDue(1, 1), 28);
        TwoTownAlmanac again = new TwoTownAlmanac();
        again.addFeast(0, 1, 1);
        again.barWeekday(0, 2);
        again.undo();
        again.undo();
        Check.due(12, "addFeast(1, 2, 2)", again.addFeast(1, 2, 2), 0);
        Check.due(17, "barredWeekday(0)", again.barredWeekday(0), -1);
    }

    private static void weekdaysAreBarred() {
        TwoTownAlmanac x = withTwo();
        Check.due(13, "barWeekday(0, 0)", x.barWeekday(0, 0), -1);
        Check.due(17, "barredWeekday(0)", x.barredWeekday(0), 0);
        Check.due(13, "barWeekday(0, 6)", x.barWeekday(0, 6), 0);
        Check.due(13, "barWeekday(0, 6)", x.barWeekday(0, 6), 6);
        Check.due(17, "barredWeekday(0)", x.barredWeekday(0), 6);
        Check.due(17, "barredWeekday(1)", x.barredWeekday(1), 3);
        Check.due(14, "allowAllWeekdays(0)", x.allowAllWeekdays(0), 6);
        Check.due(17, "barredWeekday(0)", x.barredWeekday(0), -1);
        Check.due(13, "barWeekday(0, 2)", x.barWeekday(0, 2), -1);
        Check.due(14, "allowAllWeekdays(1)", x.allowAllWeekdays(1), 3);
    }

    private static void due(int town, int month, int dayOfMonth, int... daysOfYears) {
        due(new TwoTownAlmanac(), town, month, dayOfMonth, daysOfYears);
    }

    private static void due(TwoTownAlmanac x, int town, int month, int dayOfMonth, int... daysOfYears) {
        int feast = x.addFeast(town, month, dayOfMonth);
        for (int i = 0; i < daysOfYears.length; i++) {
            String call = "of " + town + ", " + month + ", " + dayOfMonth + " in year " + (i + 1);
            Check.due(18, "dayDue " + call, x.dayDue(feast, i + 1), daysOfYears[i]);
            Check.due(19, "dayKept " + call, x.dayKept(feast, i + 1), daysOfYears[i]);
        }
    }

    private static void feastsAreDue() {
        due(0, 1, 1, 0, 366, 732);
        due(0, 1, 30, 29, 395);
        due(0, 1, 31, 30, 396);
        due(0, 2, 31, 60, 426);
        due(0, 11, 31, 335);
        due(0, 12, 31, 365, 731);
        due(1, 1, 1, 0, 336, 672);
        due(1, 1, 28, 27);
        due(1, 1, 29, 28);
        due(1, 1, 31, 28, 364);
        due(1, 12, 28, 335, 671);
        due(1, 12, 29, -1, -1);
        due(1, 12, 31, -1, -1);
        TwoTownAlmanac x = new TwoTownAlmanac();
        x.addFeast(0, 12, 31);
        x.addFeast(1, 12, 28);
        Check.due(18, "dayDue(0, 60)", x.dayDue(0, 60), 21959);
        Check.due(18, "dayDue(1, 60)", x.dayDue(1, 60), 20159);
        Check.due(19, "dayKept(0, 60)", x.dayKept(0, 60), 21959);
    }

    private static void feastsOfLeftOutDatesAreDueLater() {
        TwoTownAlmanac x = new TwoTownAlmanac();
        // Days 361 to 370 of the calendar are left out: 27.12.1 to 5.1.2.
        x.addGap(0, 360, 10);
        due(x, 0, 12, 26, 360, 716);
        due(x, 0, 12, 27, -1, 717);
        due(x, 0, 12, 31, -1, 721);
        due(x, 0, 1, 1, 0, 361, 722);
        due(x, 0, 1, 5, 4, 361, 726);
        due(x, 0, 1, 6, 5, 361, 727);
        due(x, 0, 1, 7, 6, 362, 728);
        due(x, 1, 12, 28, 335, 671);
        TwoTownAlmanac three = new TwoTownAlmanac();
        three.addGap(1, 0, 40);
        three.addGap(1, 1, 40);
        three.addGap(1, 2, 40);
        // days 0 to 3 are the calendar's days 0, 41, 82, 123
        due(three, 1, 1, 1, 0, 216);
        due(three, 1, 1, 2, 1);
        due(three, 1, 2, 14, 1);
        due(three, 1, 2, 15, 2);
        due(three, 1, 3, 27, 2);
        due(three, 1, 3, 28, 3);
        due(three, 1, 5, 13, 4);
    }

    private static void barredFeastsAreKeptLater() {
        int[] shifts = {1, 2, 3, 4, 5, 6, 7, 8, 9};
        int[] kept = {1, 2, 3, 4, 5, 6, 1, 8, 9};
        for (int i = 0; i < shifts.length; i++) {
            TwoTownAlmanac x = new TwoTownAlmanac();
            x.addFeast(0, 1, 1);
            x.barWeekday(0, 0);
            x.setShift(shifts[i]);
            String with = " with a shift of " + shifts[i];
            Check.due(18, "dayDue(0, 1)" + with, x.dayDue(0, 1), 0);
            Check.due(19, "dayKept(0, 1)" + with, x.dayKept(0, 1), kept[i]);
            Check.due(19, "dayKept(0, 2)" + with, x.dayKept(0, 2), 366);
            for (int day = 0; day <= 10; day++) {
                Check.due(20, "isKept(0, " + day + ")" + with, x.isKept(0, day), day == kept[i]);
                Check.due(21, "feastsOn(" + day + ")" + with, x.feastsOn(day), day == kept[i] ? 1 : 0);
            }
        }
        TwoTownAlmanac last = new TwoTownAlmanac();
        last.addFeast(1, 12, 31);
        last.barWeekday(0, 6);
        Check.due(19, "dayKept of a feast that is not due", last.dayKept(0, 1), -1);
    }

    private static void feastsMayBeKeptInTheNextYear() {
        TwoTownAlmanac x = new TwoTownAlmanac();
        x.addFeast(0, 12, 31);
        x.barWeekday(0, 1);
        Check.due(19, "dayKept(0, 1)", x.dayKept(0, 1), 366);
        Check.due(20, "isKept(0, 365)", x.isKept(0, 365), false);
        Check.due(20, "isKept(0, 366)", x.isKept(0, 366), true);
        Check.due(21, "feastsOn(366)", x.feastsOn(366), 1);
        x.setShift(9);
        Check.due(19, "dayKept(0, 1)", x.dayKept(0, 1), 374);
        Check.due(20, "isKept(0, 374)", x.isKept(0, 374), true);
        Check.due(21, "feastsOn(374)", x.feastsOn(374), 1);
        Check.due(32, "nextDay(0)", x.nextDay(0), 374);
        // Year 60 of town 1 ends behind day 20000, year 59 on day 59 * 336 - 1 = 19823.
        x.addFeast(1, 12, 28);
        x.barWeekday(1, 19823 % 7);
        Check.due(20, "isKept(1, 19832)", x.isKept(1, 19832), true);
    }

    private static void feastsAreOnDays() {
        TwoTownAlmanac x = new TwoTownAlmanac();
        x.addFeast(0, 8, 24);
        x.addFeast(1, 7, 9);
        for (int i = 2; i < 10; i++) {
            x.addFeast(i % 2, 1, 1);
        }
        Check.due(20, "isKept(0, 20000)", x.isKept(0, 20000), true);
        Check.due(20, "isKept(1, 20000)", x.isKept(1, 20000), true);
        Check.due(21, "feastsOn(20000)", x.feastsOn(20000), 3);
        Check.due(21, "feastsOn(0)", x.feastsOn(0), 1023 - 3);
        Check.due(21, "feastsOn(1)", x.feastsOn(1), 0);
        Check.due(21, "feastsOn(336)", x.feastsOn(336), 512 + 128 + 32 + 8);
        Check.due(20, "isKept(9, 336)", x.isKept(9, 336), true);
        Check.due(20, "isKept(8, 336)", x.isKept(8, 336), false);
    }

    private static void townsQuarrel() {
        TwoTownAlmanac x = new TwoTownAlmanac();
        Check.due(22, "isQuarrel(0) without feasts", x.isQuarrel(0), false);
        x.addFeast(0, 1, 1);
        x.addFeast(0, 1, 1);
        Check.due(22, "isQuarrel(0) with one town", x.isQuarrel(0), false);
        x.addFeast(1, 1, 2);
        Check.due(22, "isQuarrel(0) with another day", x.isQuarrel(0), false);
        Check.due(22, "isQuarrel(1) with another day", x.isQuarrel(1), false);
        x.addFeast(1, 1, 1);
        Check.due(22, "isQuarrel(0)", x.isQuarrel(0), true);
        x.barWeekday(0, 0);
        Check.due(22, "isQuarrel(0) with one moved", x.isQuarrel(0), true);
        Check.due(22, "isQuarrel(1) with one moved", x.isQuarrel(1), true);
        x.barWeekday(1, 0);
        Check.due(22, "isQuarrel(0) with both moved", x.isQuarrel(0), false);
        x.addFeast(0, 8, 24);
        Check.due(22, "isQuarrel(20000) with one feast", x.isQuarrel(20000), false);
        x.addFeast(1, 7, 9);
        Check.due(22, "isQuarrel(20000)", x.isQuarrel(20000), true);
    }
}
