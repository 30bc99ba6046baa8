/** Promises 32 to 35: looking ahead, by examples; AheadEdgesTest has the boundaries. */
public final class AheadTest {
    public static void main(String[] args) {
        nextDayCountsToday();
        meetingsAreFound();
        weekdayThatLeavesFewestQuarrels();
        lookingAheadChangesNothing();
        Check.end("AheadTest");
    }

    private static void nextDayCountsToday() {
        TwoTownAlmanac x = new TwoTownAlmanac();
        x.addFeast(0, 1, 3);
        x.addFeast(1, 12, 29);
        Check.due(32, "nextDay(0)", x.nextDay(0), 2);
        Check.due(32, "nextDay(1)", x.nextDay(1), -1);
        x.passDays(2);
        Check.due(32, "nextDay(0) on day 2", x.nextDay(0), 2);
        x.passDays(1);
        Check.due(32, "nextDay(0) on day 3", x.nextDay(0), 368);
        x.barWeekday(0, 2);
        x.setShift(5);
        // moved from day 2 to day 7, which is still to come
        Check.due(32, "nextDay(0), barred", x.nextDay(0), 7);
    }

    private static void meetingsAreFound() {
        TwoTownAlmanac x = new TwoTownAlmanac();
        x.addFeast(0, 1, 5);
        x.addFeast(0, 1, 5);
        x.addFeast(1, 1, 6);
        x.addFeast(1, 12, 31);
        Check.due(33, "daysUntilMeeting(0, 1)", x.daysUntilMeeting(0, 1), 4);
        Check.due(33, "daysUntilMeeting(1, 0)", x.daysUntilMeeting(1, 0), 4);
        Check.due(33, "daysUntilMeeting(0, 3)", x.daysUntilMeeting(0, 3), -1);
        x.barWeekday(0, 4);
        Check.due(33, "daysUntilMeeting(0, 2)", x.daysUntilMeeting(0, 2), 5);
        // 4 + 366 has weekday 6, so they are together again in year 2
        Check.due(33, "daysUntilMeeting(0, 1)", x.daysUntilMeeting(0, 1), 370);
        x.passDays(5);
        Check.due(33, "daysUntilMeeting(2, 0)", x.daysUntilMeeting(2, 0), 0);
        Check.due(33, "daysUntilMeeting(0, 1)", x.daysUntilMeeting(0, 1), 365);
    }

    private static void weekdayThatLeavesFewestQuarrels() {
        for (int weekday = 0; weekday < 7; weekday++) {
            TwoTownAlmanac x = new TwoTownAlmanac();
            x.addFeast(0, 1, 1 + weekday);
            x.addFeast(1, 1, 1 + weekday);
            String on = " with a quarrel on weekday " + weekday;
            Check.due(35, "bestBarredWeekday(0)" + on, x.bestBarredWeekday(0), weekday);
            Check.due(35, "bestBarredWeekday(1)" + on, x.bestBarredWeekday(1), weekday);
        }
        TwoTownAlmanac moved = new TwoTownAlmanac();
        moved.addFeast(0, 1, 1);
        moved.addFeast(1, 1, 2);
        Check.due(35, "bestBarredWeekday(0), 0 would make a quarrel", moved.bestBarredWeekday(0), 1);
        moved.barWeekday(0, 0);
        Check.due(35, "bestBarredWeekday(0), 0 makes a quarrel", moved.bestBarredWeekday(0), 1);
        moved.setShift(2);
        Check.due(35, "bestBarredWeekday(0) with a shift of 2", moved.bestBarredWeekday(0), 0);
        moved.addFeast(1, 3, 3);
        Check.due(35, "bestBarredWeekday(2) without quarrels", moved.bestBarredWeekday(2), 0);
    }

    private static void lookingAheadChangesNothing() {
        TwoTownAlmanac x = Make.meetingOn3660(3261);
        x.barWeekday(0, 2);
        String before = Check.stateOf(x);
        int undos = x.undoCount();
        x.bestBarredWeekday(0);
        x.bestBarredWeekday(1);
        x.quarrelsWithin(400);
        x.daysUntilMeeting(0, 1);
        x.nextDay(0);
        Check.same(35, "the state after looking ahead", Check.stateOf(x), before);
        Check.due(35, "undoCount()", x.undoCount(), undos);
        Check.due(35, "barredWeekday(0)", x.barredWeekday(0), 2);
        Check.due(35, "barredWeekday(1)", x.barredWeekday(1), -1);
    }
}
