import java.util.function.Supplier;

/** Promises 32 to 35, one method a promise: every boundary that the document names. */
public final class AheadEdgesTest {
    private static final Class<IndexOutOfBoundsException> INDEX = IndexOutOfBoundsException.class;
    private static final Class<IllegalArgumentException> ARGUMENT = IllegalArgumentException.class;
    private static final int[] NO_FEASTS = {-1, 4, 10, Integer.MIN_VALUE, Integer.MAX_VALUE};

    public static void main(String[] args) {
        Check.run(32, AheadEdgesTest::promise32Parameter);
        Check.run(32, AheadEdgesTest::promise32TodayAndThe800thDay);
        Check.run(32, AheadEdgesTest::promise32MovedFeasts);
        Check.run(33, AheadEdgesTest::promise33Parameters);
        Check.run(33, AheadEdgesTest::promise33TodayAndThe2000thDay);
        Check.run(34, AheadEdgesTest::promise34Parameter);
        Check.run(34, AheadEdgesTest::promise34TodayAndTheLastDay);
        Check.run(35, AheadEdgesTest::promise35Parameter);
        Check.run(35, AheadEdgesTest::promise35TodayAndThe400thDay);
        Check.run(35, AheadEdgesTest::promise35LeastOfSeveral);
        Check.run(32, AheadEdgesTest::promises32To34OnDay9999);
        Check.covered(32, 35);
        Check.end("AheadEdgesTest");
    }

    private static Supplier<TwoTownAlmanac> withFeasts(int count) {
        return () -> Make.busy(0, 0, count);
    }

    private static void promise32Parameter() {
        // today is day 8: feasts 0 and 1 come again on days 367 and 337
        new Edge(32, "nextDay(?) of none", withFeasts(0), TwoTownAlmanac::nextDay).outside(INDEX);
        new Edge(32, "nextDay(?) of one", withFeasts(1), TwoTownAlmanac::nextDay)
                .least(0, 367).greatest(0, 367).outside(INDEX);
        new Edge(32, "nextDay(?) of nine", withFeasts(9), TwoTownAlmanac::nextDay)
                .least(0, 367).greatest(8, 371).outside(INDEX);
        new Edge(32, "nextDay(?) of ten", withFeasts(10), TwoTownAlmanac::nextDay)
                .least(0, 367).greatest(9, 341).outside(INDEX);
    }

    private static void promise32TodayAndThe800thDay() {
        TwoTownAlmanac x = Make.withFeast(1, 2, 3);
        int[] todays = {0, 29, 30, 31};
        int[] wants = {30, 30, 30, 366};
        for (int i = 0; i < todays.length; i++) {
            Make.passTo(x, todays[i]);
            Check.due(32, "nextDay(0) on day " + todays[i], x.nextDay(0), wants[i]);
        }
        // 31.12. of town 0 is left out in years 1 and 2; in year 3 it is day 1097 - 20
        int[] before = {276, 277, 278, 279, 1076, 1077};
        for (int today : before) {
            TwoTownAlmanac left = Make.withGaps(0, 360, 10, 715, 10);
            left.addFeast(0, 12, 31);
            Make.passTo(left, today);
            Check.due(32, "nextDay(0) on day " + today, left.nextDay(0), today < 278 ? -1 : 1077);
        }
        TwoTownAlmanac never = Make.withFeast(1, 12, 29);
        Check.due(32, "nextDay(0) of a feast that is never due", never.nextDay(0), -1);
    }

    private static void promise32MovedFeasts() {
        // due on days 30 and 366, weekdays 2, and kept on days 39 and 375: the days on which it is due don't count
        TwoTownAlmanac x = Make.withFeast(1, 2, 3);
        x.barWeekday(0, 2);
        x.setShift(9);
        int[] todays = {0, 30, 31, 38, 39, 40};
        int[] wants = {39, 39, 39, 39, 39, 375};
        for (int i = 0; i < todays.length; i++) {
            Make.passTo(x, todays[i]);
            Check.due(32, "nextDay(0) on day " + todays[i], x.nextDay(0), wants[i]);
        }
        // due in year 1, on day 365, and kept in year 2, on day 374
        TwoTownAlmanac next = Make.withFeast(0, 12, 31);
        next.barWeekday(0, 1);
        next.setShift(9);
        int[] days = {365, 366, 373, 374, 375};
        for (int day : days) {
            Make.passTo(next, day);
            Check.due(32, "nextDay(0) on day " + day, next.nextDay(0), day < 375 ? 374 : 731);
        }
    }

    private static void promise33Parameters() {
        // today is day 8; day 10 has feasts of both towns
        Supplier<TwoTownAlmanac> made = () -> {
            TwoTownAlmanac x = Make.busy(0, 0, 8);
            x.addFeast(0, 1, 11);
            x.addFeast(1, 1, 11);
            return x;
        };
        new Edge(33, "daysUntilMeeting(?, 9)", made, (x, feast) -> x.daysUntilMeeting(feast, 9))
                .least(0, -1).greatest(8, 2);
        new Edge(33, "daysUntilMeeting(9, ?)", made, (x, feast) -> x.daysUntilMeeting(9, feast))
                .least(0, -1).greatest(8, 2);
        new Edge(33, "daysUntilMeeting(8, ?)", made, (x, feast) -> x.daysUntilMeeting(8, feast))
                .least(0, -1).greatest(9, 2).outside(INDEX);
        new Edge(33, "daysUntilMeeting(?, 8)", made, (x, feast) -> x.daysUntilMeeting(feast, 8))
                .least(0, -1).greatest(9, 2).outside(INDEX);
        for (int feast = 0; feast < 10; feast++) {
            int same = feast;
            Check.refused(33, "daysUntilMeeting(" + feast + ", " + feast + ")", ARGUMENT, made,
                    x -> x.daysUntilMeeting(same, same));
        }
        for (int feast : NO_FEASTS) {
            for (int other : NO_FEASTS) {
                Check.refused(33, "daysUntilMeeting(" + feast + ", " + other + ")", INDEX, Make::busy,
                        x -> x.daysUntilMeeting(feast, other));
            }
            Check.refused(33, "daysUntilMeeting(0, " + feast + ")", INDEX, Make::busy,
                    x -> x.daysUntilMeeting(0, feast));
            Check.refused(33, "daysUntilMeeting(" + feast + ", 3)", INDEX, Make::busy,
                    x -> x.daysUntilMeeting(feast, 3));
        }
        Check.refused(33, "daysUntilMeeting(0, 0) of none", INDEX, withFeasts(0), x -> x.daysUntilMeeting(0, 0));
        Check.refused(33, "daysUntilMeeting(0, 0) of one", ARGUMENT, withFeasts(1), x -> x.daysUntilMeeting(0, 0));
        Check.refused(33, "daysUntilMeeting(0, 1) of one", INDEX, withFeasts(1), x -> x.daysUntilMeeting(0, 1));
    }

    private static void promise33TodayAndThe2000thDay() {
        int[] todays = {1658, 1659, 1660, 1661, 3659, 3660, 3661};
        int[] wants = {-1, -1, 2000, 1999, 1, 0, -1};
        for (int i = 0; i < todays.length; i++) {
            TwoTownAlmanac x = Make.meetingOn3660(todays[i]);
            String on = " on day " + todays[i];
            Check.due(33, "daysUntilMeeting(0, 1)" + on, x.daysUntilMeeting(0, 1), wants[i]);
            Check.due(33, "daysUntilMeeting(1, 0)" + on, x.daysUntilMeeting(1, 0), wants[i]);
        }
        // two feasts of one town meet too, and where both are moved to
        TwoTownAlmanac x = Make.withFeast(1, 2, 3);
        x.addFeast(1, 2, 3);
        Check.due(33, "daysUntilMeeting(0, 1) of one town", x.daysUntilMeeting(0, 1), 30);
        x.barWeekday(0, 2);
        x.barWeekday(1, 2);
        x.setShift(9);
        Check.due(33, "daysUntilMeeting(0, 1), both moved", x.daysUntilMeeting(0, 1), 39);
        Make.passTo(x, 39);
        Check.due(33, "daysUntilMeeting(0, 1), both moved to today", x.daysUntilMeeting(0, 1), 0);
        Make.passTo(x, 40);
        Check.due(33, "daysUntilMeeting(0, 1), both moved to yesterday", x.daysUntilMeeting(0, 1), 375 - 40);
        // 31.12. of town 0 is moved from day 365 to day 374, 39 days into year 2 of town 1
        TwoTownAlmanac next = Make.withFeast(0, 12, 31);
        next.barWeekday(0, 1);
        next.setShift(9);
        next.addFeast(1, 2, 11);
        Make.passTo(next, 370);
        Check.due(33, "daysUntilMeeting(0, 1) over a new year", next.daysUntilMeeting(0, 1), 4);
        Check.due(33, "daysUntilMeeting(1, 0) over a new year", next.daysUntilMeeting(1, 0), 4);
    }

    private static void promise34Parameter() {
        // both towns keep feasts on days 9 and 407; today is day 8
        Supplier<TwoTownAlmanac> made = () -> {
            TwoTownAlmanac x = Make.busy(0, 0, 2);
            x.addFeast(0, 1, 9);
            x.addFeast(1, 1, 9);
            // 407 = 366 + 30 + 11 = 336 + 2 * 28 + 15
            x.addFeast(0, 2, 12);
            x.addFeast(1, 3, 16);
            return x;
        };
        new Edge(34, "quarrelsWithin(?)", made, TwoTownAlmanac::quarrelsWithin)
                .least(1, 1).greatest(400, 2).outside(ARGUMENT);
        Check.due(34, "quarrelsWithin(399)", made.get().quarrelsWithin(399), 1);
        new Edge(34, "quarrelsWithin(?) of none", withFeasts(0), TwoTownAlmanac::quarrelsWithin)
                .least(1, 0).greatest(400, 0).outside(ARGUMENT);
    }

    private static void promise34TodayAndTheLastDay() {
        int[][] todaysDaysAndWants = {{3260, 400, 0}, {3261, 399, 0}, {3261, 400, 1}, {3659, 1, 0}, {3659, 2, 1},
            {3660, 1, 1}, {3660, 400, 1}, {3661, 1, 0}, {3661, 400, 0}};
        for (int[] row : todaysDaysAndWants) {
            Check.due(34, "quarrelsWithin(" + row[1] + ") on day " + row[0],
                    Make.meetingOn3660(row[0]).quarrelsWithin(row[1]), row[2]);
        }
        TwoTownAlmanac x = new TwoTownAlmanac();
        for (int day = 1; day <= 5; day++) {
            x.addFeast(0, 1, day);
            x.addFeast(1, 1, day);
        }
        for (int days = 1; days <= 6; days++) {
            Check.due(34, "quarrelsWithin(" + days + ")", x.quarrelsWithin(days), Math.min(days, 5));
        }
        // what was seen further ahead by an earlier call does not count
        for (int days : new int[] {400, 5, 4, 3, 2, 1}) {
            Check.due(34, "quarrelsWithin(" + days + ")", x.quarrelsWithin(days), Math.min(days, 5));
        }
        Check.due(22, "isQuarrel(5) behind the last quarrel", x.isQuarrel(5), false);
        Check.due(21, "feastsOn(4)", x.feastsOn(4), 256 + 512);
        Check.due(27, "passDays(1) after quarrelsWithin(400)", x.passDays(1), 1);
        Check.due(29, "feastsKept(0) after quarrelsWithin(400)", x.feastsKept(0), 1);
    }

    private static void promise35Parameter() {
        new Edge(35, "bestBarredWeekday(?) of none", withFeasts(0), TwoTownAlmanac::bestBarredWeekday).outside(INDEX);
        // one feast can't quarrel; with nine and ten, the first ones quarrel neither
        new Edge(35, "bestBarredWeekday(?) of one", withFeasts(1), TwoTownAlmanac::bestBarredWeekday)
                .least(0, 0).greatest(0, 0).outside(INDEX);
        new Edge(35, "bestBarredWeekday(?) of nine", () -> quarrelOfTheLast(9), TwoTownAlmanac::bestBarredWeekday)
                .least(0, 0).greatest(8, 2).outside(INDEX);
        new Edge(35, "bestBarredWeekday(?) of ten", () -> quarrelOfTheLast(10), TwoTownAlmanac::bestBarredWeekday)
                .least(0, 0).greatest(9, 2).outside(INDEX);
    }

    /** The last two of so many feasts are kept on day 16, a weekday 2; today is day 8. */
    private static TwoTownAlmanac quarrelOfTheLast(int count) {
        TwoTownAlmanac x = Make.busy(0, 0, count - 2);
        x.addFeast(0, 1, 17);
        x.addFeast(1, 1, 17);
        return x;
    }

    private static void promise35TodayAndThe400thDay() {
        // day 3660 has weekday 6: barred, it would end the only quarrel
        int[] todays = {3260, 3261, 3660, 3661};
        int[] wants = {0, 6, 6, 0};
        for (int i = 0; i < todays.length; i++) {
            for (int feast = 0; feast < 2; feast++) {
                TwoTownAlmanac x = Make.meetingOn3660(todays[i]);
                String call = "bestBarredWeekday(" + feast + ") on day " + todays[i];
                Check.due(35, call, x.bestBarredWeekday(feast), wants[i]);
                x.barWeekday(feast, 6);
                Check.due(35, call + " with 6 barred", x.bestBarredWeekday(feast), wants[i]);
                Check.due(35, "barredWeekday after " + call, x.barredWeekday(feast), 6);
            }
        }
    }

    private static void promise35LeastOfSeveral() {
        for (int weekday = 0; weekday < 7; weekday++) {
            TwoTownAlmanac x = Make.withFeast(0, 1, 1 + weekday);
            x.addFeast(1, 1, 1 + weekday);
            Check.due(35, "bestBarredWeekday(1) of a quarrel on weekday " + weekday, x.bestBarredWeekday(1), weekday);
        }
        // 0 would make a quarrel on day 1; all others would leave none
        TwoTownAlmanac made = Make.withFeast(0, 1, 1);
        made.addFeast(1, 1, 2);
        Check.due(35, "bestBarredWeekday(0), 0 makes a quarrel", made.bestBarredWeekday(0), 1);
        // the quarrel on day 0 goes on with any weekday barred for a third feast
        TwoTownAlmanac same = Make.withFeast(0, 1, 1);
        same.addFeast(1, 1, 1);
        same.addFeast(1, 1, 1);
        Check.due(35, "bestBarredWeekday(2), the other still quarrels", same.bestBarredWeekday(2), 0);
        // with 0 barred for feast 0 there is no quarrel; the answer counts as if it were not
        TwoTownAlmanac barred = Make.withFeast(0, 1, 1);
        barred.addFeast(1, 1, 1);
        barred.barWeekday(0, 0);
        Check.due(35, "bestBarredWeekday(0) with 0 barred", barred.bestBarredWeekday(0), 0);
        barred.barWeekday(0, 5);
        Check.due(35, "bestBarredWeekday(0) with 5 barred", barred.bestBarredWeekday(0), 0);
        Check.due(35, "barredWeekday(0) after it", barred.barredWeekday(0), 5);
        Check.due(35, "undoCount() after it", barred.undoCount(), 4);
    }

    /** On day 9999 all that looks ahead sees days that will never be today. */
    private static void promises32To34OnDay9999() {
        // the feasts' days: 9999, 10398 and 10798 for both towns
        int[] days = {9999, 10398, 10798};
        TwoTownAlmanac x = new TwoTownAlmanac();
        for (int day : days) {
            for (int town = 0; town < 2; town++) {
                x.addFeast(town, x.monthOf(town, day), x.dayOfMonth(town, day));
            }
        }
        Make.passTo(x, 9999);
        Check.due(32, "nextDay(0) on day 9999", x.nextDay(0), 9999);
        Check.due(32, "nextDay(2) on day 9999", x.nextDay(2), 10032);
        Check.due(33, "daysUntilMeeting(0, 1) on day 9999", x.daysUntilMeeting(0, 1), 0);
        Check.due(33, "daysUntilMeeting(2, 3) on day 9999", x.daysUntilMeeting(2, 3), 399);
        Check.due(33, "daysUntilMeeting(4, 5) on day 9999", x.daysUntilMeeting(4, 5), 799);
        Check.due(34, "quarrelsWithin(1) on day 9999", x.quarrelsWithin(1), 1);
        Check.due(34, "quarrelsWithin(399) on day 9999", x.quarrelsWithin(399), 1);
        Check.due(34, "quarrelsWithin(400) on day 9999", x.quarrelsWithin(400), 2);
        for (int last : new int[] {11999, 12000}) {
            TwoTownAlmanac far = new TwoTownAlmanac();
            far.addFeast(0, far.monthOf(0, last), far.dayOfMonth(0, last));
            far.addFeast(1, far.monthOf(1, last), far.dayOfMonth(1, last));
            Make.passTo(far, 9999);
            Check.due(33, "daysUntilMeeting(0, 1) of day " + last, far.daysUntilMeeting(0, 1),
                    last == 11999 ? 2000 : -1);
        }
    }
}
