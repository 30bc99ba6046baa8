import java.util.function.Supplier;

/** Promises 32 to 35: looking ahead. */
public final class AheadTest {
    private static final Class<IndexOutOfBoundsException> INDEX = IndexOutOfBoundsException.class;
    private static final Class<IllegalArgumentException> ARGUMENT = IllegalArgumentException.class;
    private static final int[] NO_FEASTS = {-1, 2, 10, Integer.MIN_VALUE, Integer.MAX_VALUE};

    public static void main(String[] args) {
        nextDayCountsToday();
        nextDayEndsAfter800Days();
        meetingsAreFound();
        meetingsEndAfter2000Days();
        quarrelsAreSeenAhead();
        weekdayThatLeavesFewestQuarrels();
        weekdayLooksAhead400Days();
        lookingAheadChangesNothing();
        wrongInputs();
        Check.end("AheadTest");
    }

    private static void passTo(TwoTownAlmanac x, int day) {
        while (x.today() < day) {
            x.passDays(Math.min(400, day - x.today()));
        }
    }

    /** 1.1. in town 0 and 21.11. in town 1 meet on day 3660 alone: 10 * 366 = 10 * 336 + 300. */
    private static TwoTownAlmanac meetingOn3660(int today) {
        TwoTownAlmanac x = new TwoTownAlmanac();
        x.addFeast(0, 1, 1);
        x.addFeast(1, 11, 21);
        passTo(x, today);
        return x;
    }

    private static void nextDayCountsToday() {
        TwoTownAlmanac x = new TwoTownAlmanac();
        x.addFeast(0, 1, 3);
        x.addFeast(1, 12, 29);
        Check.due(32, "nextDay(0)", x.nextDay(0), 2);
        Check.due(32, "nextDay(1)", x.nextDay(1), -1);
        x.passDays(2);
        Check.due(32, "nextDay(0) on day 2", x.nextDay(0), 2);
        x.passDays(1);
        Check.due(32, "nextDay(0) on day 3", x.nextDay(0), 368);
        x.barWeekday(0, 2);
        x.setShift(5);
        // moved from day 2 to day 7, which is still to come
        Check.due(32, "nextDay(0), barred", x.nextDay(0), 7);
    }

    private static void nextDayEndsAfter800Days() {
        TwoTownAlmanac x = new TwoTownAlmanac();
        // 31.12. is left out in years 1 and 2; in year 3 it is on day 1097 - 20
        x.addGap(0, 360, 10);
        x.addGap(0, 715, 10);
        x.addFeast(0, 12, 31);
        Check.due(18, "dayDue(0, 2)", x.dayDue(0, 2), -1);
        passTo(x, 277);
        Check.due(32, "nextDay(0) on day 277", x.nextDay(0), -1);
        passTo(x, 278);
        Check.due(32, "nextDay(0) on day 278", x.nextDay(0), 1077);
    }

    private static void meetingsAreFound() {
        TwoTownAlmanac x = new TwoTownAlmanac();
        x.addFeast(0, 1, 5);
        x.addFeast(0, 1, 5);
        x.addFeast(1, 1, 6);
        x.addFeast(1, 12, 31);
        Check.due(33, "daysUntilMeeting(0, 1)", x.daysUntilMeeting(0, 1), 4);
        Check.due(33, "daysUntilMeeting(1, 0)", x.daysUntilMeeting(1, 0), 4);
        Check.due(33, "daysUntilMeeting(0, 3)", x.daysUntilMeeting(0, 3), -1);
        x.barWeekday(0, 4);
        Check.due(33, "daysUntilMeeting(0, 2)", x.daysUntilMeeting(0, 2), 5);
        // 4 + 366 has weekday 6, so they are together again in year 2
        Check.due(33, "daysUntilMeeting(0, 1)", x.daysUntilMeeting(0, 1), 370);
        x.passDays(5);
        Check.due(33, "daysUntilMeeting(2, 0)", x.daysUntilMeeting(2, 0), 0);
        Check.due(33, "daysUntilMeeting(0, 1)", x.daysUntilMeeting(0, 1), 365);
    }

    private static void meetingsEndAfter2000Days() {
        int[] days = {1659, 1660, 1661, 3660, 3661};
        int[] wants = {-1, 2000, 1999, 0, -1};
        for (int i = 0; i < days.length; i++) {
            TwoTownAlmanac x = meetingOn3660(days[i]);
            Check.due(33, "daysUntilMeeting(0, 1) on day " + days[i], x.daysUntilMeeting(0, 1), wants[i]);
            Check.due(33, "daysUntilMeeting(1, 0) on day " + days[i], x.daysUntilMeeting(1, 0), wants[i]);
        }
    }

    private static void quarrelsAreSeenAhead() {
        TwoTownAlmanac x = meetingOn3660(3261);
        Check.due(34, "quarrelsWithin(400) on day 3261", x.quarrelsWithin(400), 1);
        Check.due(34, "quarrelsWithin(399) on day 3261", x.quarrelsWithin(399), 0);
        passTo(x, 3660);
        Check.due(34, "quarrelsWithin(1) on day 3660", x.quarrelsWithin(1), 1);
        passTo(x, 3661);
        Check.due(34, "quarrelsWithin(400) on day 3661", x.quarrelsWithin(400), 0);
        TwoTownAlmanac many = new TwoTownAlmanac();
        for (int i = 1; i <= 5; i++) {
            many.addFeast(0, 1, i);
            many.addFeast(1, 1, i);
        }
        Check.due(34, "quarrelsWithin(5)", many.quarrelsWithin(5), 5);
        Check.due(34, "quarrelsWithin(3)", many.quarrelsWithin(3), 3);
        TwoTownAlmanac oneDay = new TwoTownAlmanac();
        for (int i = 0; i < 10; i++) {
            oneDay.addFeast(i % 2, 1, 2);
        }
        Check.due(34, "quarrelsWithin(400), all on one day", oneDay.quarrelsWithin(400), 1);
    }

    private static void weekdayThatLeavesFewestQuarrels() {
        for (int weekday = 0; weekday < 7; weekday++) {
            TwoTownAlmanac x = new TwoTownAlmanac();
            x.addFeast(0, 1, 1 + weekday);
            x.addFeast(1, 1, 1 + weekday);
            String on = " with a quarrel on weekday " + weekday;
            Check.due(35, "bestBarredWeekday(0)" + on, x.bestBarredWeekday(0), weekday);
            Check.due(35, "bestBarredWeekday(1)" + on, x.bestBarredWeekday(1), weekday);
        }
        TwoTownAlmanac moved = new TwoTownAlmanac();
        moved.addFeast(0, 1, 1);
        moved.addFeast(1, 1, 2);
        Check.due(35, "bestBarredWeekday(0), 0 would make a quarrel", moved.bestBarredWeekday(0), 1);
        moved.barWeekday(0, 0);
        Check.due(35, "bestBarredWeekday(0), 0 makes a quarrel", moved.bestBarredWeekday(0), 1);
        moved.setShift(2);
        Check.due(35, "bestBarredWeekday(0) with a shift of 2", moved.bestBarredWeekday(0), 0);
        moved.addFeast(1, 3, 3);
        Check.due(35, "bestBarredWeekday(2) without quarrels", moved.bestBarredWeekday(2), 0);
    }

    private static void weekdayLooksAhead400Days() {
        // day 3660 has weekday 6
        Check.due(35, "bestBarredWeekday(0) on day 3260", meetingOn3660(3260).bestBarredWeekday(0), 0);
        Check.due(35, "bestBarredWeekday(0) on day 3261", meetingOn3660(3261).bestBarredWeekday(0), 6);
        Check.due(35, "bestBarredWeekday(1) on day 3660", meetingOn3660(3660).bestBarredWeekday(1), 6);
        Check.due(35, "bestBarredWeekday(1) on day 3661", meetingOn3660(3661).bestBarredWeekday(1), 0);
    }

    private static void lookingAheadChangesNothing() {
        TwoTownAlmanac x = meetingOn3660(3261);
        x.barWeekday(0, 2);
        String before = Check.stateOf(x);
        int undos = x.undoCount();
        x.bestBarredWeekday(0);
        x.bestBarredWeekday(1);
        x.quarrelsWithin(400);
        x.daysUntilMeeting(0, 1);
        x.nextDay(0);
        Check.same(35, "the state after looking ahead", Check.stateOf(x), before);
        Check.due(35, "undoCount()", x.undoCount(), undos);
        Check.due(35, "barredWeekday(0)", x.barredWeekday(0), 2);
        Check.due(35, "barredWeekday(1)", x.barredWeekday(1), -1);
    }

    private static void wrongInputs() {
        Supplier<TwoTownAlmanac> made = () -> meetingOn3660(10);
        for (int feast : NO_FEASTS) {
            String of = "(" + feast + ")";
            Check.refused(32, "nextDay" + of, INDEX, made, x -> x.nextDay(feast));
            Check.refused(33, "daysUntilMeeting, the first no feast " + of, INDEX, made,
                    x -> x.daysUntilMeeting(feast, 0));
            Check.refused(33, "daysUntilMeeting, the second no feast " + of, INDEX, made,
                    x -> x.daysUntilMeeting(0, feast));
            Check.refused(33, "daysUntilMeeting, twice no feast " + of, INDEX, made,
                    x -> x.daysUntilMeeting(feast, feast));
            Check.refused(35, "bestBarredWeekday" + of, INDEX, made, x -> x.bestBarredWeekday(feast));
        }
        Check.refused(33, "daysUntilMeeting(1, 1)", ARGUMENT, made, x -> x.daysUntilMeeting(1, 1));
        for (int days : new int[] {0, -1, 401, Integer.MIN_VALUE, Integer.MAX_VALUE}) {
            Check.refused(34, "quarrelsWithin(" + days + ")", ARGUMENT, made, x -> x.quarrelsWithin(days));
        }
    }
}
