import java.util.function.Supplier;

/** Promises 12 to 22, one method a promise: every boundary that the document names. */
public final class FeastEdgesTest {
    private static final Class<IndexOutOfBoundsException> INDEX = IndexOutOfBoundsException.class;
    private static final Class<IllegalArgumentException> ARGUMENT = IllegalArgumentException.class;
    private static final Class<IllegalStateException> STATE = IllegalStateException.class;
    private static final int LEAST = Integer.MIN_VALUE;
    private static final int GREATEST = Integer.MAX_VALUE;
    private static final int[] NO_FEASTS = {-1, 4, LEAST, GREATEST};
    /** How many feasts there are: none, one, one before full, all. */
    private static final int[] COUNTS = {0, 1, 9, 10};

    public static void main(String[] args) {
        Check.run(12, FeastEdgesTest::promise12Parameters);
        Check.run(12, FeastEdgesTest::promise12Row);
        Check.run(12, FeastEdgesTest::promise12OrderOfThrows);
        Check.run(13, FeastEdgesTest::promise13);
        Check.run(14, FeastEdgesTest::promise14);
        Check.run(15, FeastEdgesTest::promise15);
        Check.run(16, FeastEdgesTest::promises16And17);
        Check.run(18, FeastEdgesTest::promises18And19Parameters);
        Check.run(18, FeastEdgesTest::promise18ShortMonths);
        Check.run(18, FeastEdgesTest::promise18LeftOutDates);
        Check.run(18, FeastEdgesTest::promise18LastDayOfTheYear);
        Check.run(19, FeastEdgesTest::promise19Shift);
        Check.run(19, FeastEdgesTest::promise19NextYear);
        Check.run(20, FeastEdgesTest::promise20Parameters);
        Check.run(20, FeastEdgesTest::promise20WhateverYear);
        Check.run(21, FeastEdgesTest::promise21);
        Check.run(22, FeastEdgesTest::promise22);
        Check.covered(12, 22);
        Check.end("FeastEdgesTest");
    }

    private static Supplier<TwoTownAlmanac> withFeasts(int count) {
        return () -> Make.busy(2, 2, count);
    }

    /** The index of a feast, for rows of several lengths; the answer at the greatest may depend on it. */
    private static void feastEdges(int promise, String told, Edge.Call call, long atLeast, Edge.Call atGreatest) {
        for (int count : COUNTS) {
            Edge edge = new Edge(promise, told + " of " + count + " feasts", withFeasts(count), call);
            if (count > 0) {
                edge.least(0, atLeast).greatest(count - 1, atGreatest.with(null, count - 1));
            }
            edge.outside(INDEX);
        }
    }

    private static void promise12Parameters() {
        new Edge(12, "addFeast(?, 1, 1)", Make::busy, (x, town) -> x.addFeast(town, 1, 1))
                .least(0, 4).greatest(1, 4).outside(INDEX);
        for (int town = 0; town < 2; town++) {
            int chosen = town;
            new Edge(12, "addFeast(" + town + ", ?, 1)", Make::busy, (x, month) -> x.addFeast(chosen, month, 1))
                    .least(1, 4).greatest(12, 4).outside(ARGUMENT);
            new Edge(12, "addFeast(" + town + ", 1, ?)", Make::busy, (x, day) -> x.addFeast(chosen, 1, day))
                    .least(1, 4).greatest(31, 4).outside(ARGUMENT);
        }
        TwoTownAlmanac x = Make.withFeast(1, 12, 28);
        x.addFeast(0, 1, 1);
        x.addFeast(0, 12, 31);
        Check.due(12, "feastTown(0)", x.feastTown(0), 1);
        Check.due(12, "feastTown(1)", x.feastTown(1), 0);
        Check.due(12, "dayDue(0, 1)", x.dayDue(0, 1), 335);
        Check.due(12, "dayDue(1, 1)", x.dayDue(1, 1), 0);
        Check.due(12, "dayDue(2, 1)", x.dayDue(2, 1), 365);
        Check.due(12, "barredWeekday(2)", x.barredWeekday(2), -1);
    }

    private static void promise12Row() {
        for (int count = 0; count < 10; count++) {
            new Edge(12, "addFeast(?, 12, 31) to " + count, withFeasts(count), (x, town) -> x.addFeast(town, 12, 31))
                    .least(0, count).greatest(1, count);
        }
        Check.refused(12, "addFeast(0, 1, 1) to 10", STATE, withFeasts(10), x -> x.addFeast(0, 1, 1));
        Check.refused(12, "addFeast(1, 12, 31) to 10", STATE, withFeasts(10), x -> x.addFeast(1, 12, 31));
        // a place that undo has freed is taken again, and without its barred weekday
        TwoTownAlmanac x = withFeasts(9).get();
        x.addFeast(0, 5, 5);
        x.barWeekday(9, 2);
        x.undo();
        x.undo();
        Check.due(12, "addFeast(1, 6, 6) after undo", x.addFeast(1, 6, 6), 9);
        Check.due(12, "barredWeekday(9)", x.barredWeekday(9), -1);
        Check.due(12, "feastTown(9)", x.feastTown(9), 1);
    }

    private static void promise12OrderOfThrows() {
        for (int town : new int[] {-1, 2, LEAST, GREATEST}) {
            String of = "addFeast(" + town;
            Check.refused(12, of + ", 1, 1) to 10", INDEX, withFeasts(10), x -> x.addFeast(town, 1, 1));
            for (int wrong : new int[] {0, LEAST, GREATEST}) {
                Check.refused(12, of + ", " + wrong + ", 1)", INDEX, Make::busy, x -> x.addFeast(town, wrong, 1));
                Check.refused(12, of + ", 1, " + wrong + ")", INDEX, Make::busy, x -> x.addFeast(town, 1, wrong));
            }
            Check.refused(12, of + ", 13, 32) to 10", INDEX, withFeasts(10), x -> x.addFeast(town, 13, 32));
        }
        for (int month : new int[] {0, 13, LEAST, GREATEST}) {
            Check.refused(12, "addFeast(0, " + month + ", 1) to 10", ARGUMENT, withFeasts(10),
                    x -> x.addFeast(0, month, 1));
        }
        for (int day : new int[] {0, 32, LEAST, GREATEST}) {
            Check.refused(12, "addFeast(1, 1, " + day + ") to 10", ARGUMENT, withFeasts(10),
                    x -> x.addFeast(1, 1, day));
        }
    }

    private static void promise13() {
        feastEdges(13, "barWeekday(?, 3)", (x, feast) -> x.barWeekday(feast, 3), -1, (x, last) -> last == 1 ? 5 : -1);
        new Edge(13, "barWeekday(1, ?)", Make::busy, (x, weekday) -> x.barWeekday(1, weekday))
                .least(0, 5).greatest(6, 5).outside(ARGUMENT);
        new Edge(13, "barWeekday(0, ?)", Make::busy, (x, weekday) -> x.barWeekday(0, weekday))
                .least(0, -1).greatest(6, -1).outside(ARGUMENT);
        for (int feast : NO_FEASTS) {
            for (int weekday : new int[] {-1, 7, LEAST, GREATEST}) {
                Check.refused(13, "barWeekday(" + feast + ", " + weekday + ")", INDEX, Make::busy,
                        x -> x.barWeekday(feast, weekday));
            }
        }
        TwoTownAlmanac x = Make.busy();
        for (int weekday = 0; weekday < 7; weekday++) {
            Check.due(13, "barWeekday(0, " + weekday + ")", x.barWeekday(0, weekday), weekday - 1);
            Check.due(13, "barWeekday(0, the same)", x.barWeekday(0, weekday), weekday);
            Check.due(13, "barredWeekday(0)", x.barredWeekday(0), weekday);
        }
        Check.due(13, "barredWeekday(1), another feast's", x.barredWeekday(1), 5);
    }

    private static void promise14() {
        Supplier<TwoTownAlmanac> allBarred = () -> {
            TwoTownAlmanac x = withFeasts(10).get();
            for (int feast = 0; feast < 10; feast++) {
                x.barWeekday(feast, feast % 7);
            }
            return x;
        };
        new Edge(14, "allowAllWeekdays(?) of 10", allBarred, TwoTownAlmanac::allowAllWeekdays)
                .least(0, 0).greatest(9, 2).outside(INDEX);
        new Edge(14, "allowAllWeekdays(?) of none", withFeasts(0), TwoTownAlmanac::allowAllWeekdays).outside(INDEX);
        for (int feast : NO_FEASTS) {
            Check.refused(14, "allowAllWeekdays(" + feast + ") of 4", INDEX, Make::busy,
                    x -> x.allowAllWeekdays(feast));
        }
        for (int feast : new int[] {0, 2, 3}) {
            Check.refused(14, "allowAllWeekdays(" + feast + ")", STATE, Make::busy, x -> x.allowAllWeekdays(feast));
        }
        Supplier<TwoTownAlmanac> allowed = () -> {
            TwoTownAlmanac x = Make.busy();
            x.allowAllWeekdays(1);
            return x;
        };
        Check.refused(14, "allowAllWeekdays(1) once more", STATE, allowed, x -> x.allowAllWeekdays(1));
        for (int weekday = 0; weekday < 7; weekday++) {
            TwoTownAlmanac x = allowed.get();
            x.barWeekday(1, weekday);
            Check.due(14, "allowAllWeekdays(1) of " + weekday, x.allowAllWeekdays(1), weekday);
            Check.due(14, "barredWeekday(1)", x.barredWeekday(1), -1);
            Check.due(14, "barWeekday(1, 4)", x.barWeekday(1, 4), -1);
        }
    }

    private static void promise15() {
        TwoTownAlmanac x = new TwoTownAlmanac();
        for (int count = 0; count < 10; count++) {
            Check.due(15, "feastCount()", x.feastCount(), count);
            x.addFeast(1, 1, 1);
        }
        Check.due(15, "feastCount()", x.feastCount(), 10);
        try {
            x.addFeast(1, 1, 1);
        } catch (IllegalStateException e) {
            Check.due(15, "feastCount() after an eleventh", x.feastCount(), 10);
        }
        x.undo();
        Check.due(15, "feastCount() after undo", x.feastCount(), 9);
    }

    private static void promises16And17() {
        feastEdges(16, "feastTown(?)", TwoTownAlmanac::feastTown, 0, (x, last) -> last % 2);
        feastEdges(17, "barredWeekday(?)", TwoTownAlmanac::barredWeekday, -1, (x, last) -> last == 1 ? 5 : -1);
        for (int weekday : new int[] {0, 6}) {
            TwoTownAlmanac x = withFeasts(10).get();
            x.barWeekday(9, weekday);
            Check.due(17, "barredWeekday(9)", x.barredWeekday(9), weekday);
            Check.due(17, "barredWeekday(8)", x.barredWeekday(8), -1);
        }
    }

    private static void promises18And19Parameters() {
        feastEdges(18, "dayDue(?, 1)", (x, feast) -> x.dayDue(feast, 1), 1, (x, last) -> 1 + last / 2);
        feastEdges(19, "dayKept(?, 1)", (x, feast) -> x.dayKept(feast, 1), 1, (x, last) -> 1 + last / 2);
        // 2.1. of town 0, which leaves out 3 days in year 1, and 3.1. of town 1, which leaves out 9
        new Edge(18, "dayDue(0, ?)", Make::busy, (x, year) -> x.dayDue(0, year))
                .least(1, 1).greatest(60, 59 * 366 + 1 - 3).outside(ARGUMENT);
        new Edge(19, "dayKept(0, ?)", Make::busy, (x, year) -> x.dayKept(0, year))
                .least(1, 1).greatest(60, 59 * 366 + 1 - 3).outside(ARGUMENT);
        new Edge(18, "dayDue(3, ?)", Make::busy, (x, year) -> x.dayDue(3, year))
                .least(1, 2).greatest(60, 59 * 336 + 2 - 9).outside(ARGUMENT);
        new Edge(19, "dayKept(3, ?)", Make::busy, (x, year) -> x.dayKept(3, year))
                .least(1, 2).greatest(60, 59 * 336 + 2 - 9).outside(ARGUMENT);
        for (int feast : NO_FEASTS) {
            for (int year : new int[] {0, 61, LEAST, GREATEST}) {
                String of = "(" + feast + ", " + year + ")";
                Check.refused(18, "dayDue" + of, INDEX, Make::busy, x -> x.dayDue(feast, year));
                Check.refused(19, "dayKept" + of, INDEX, Make::busy, x -> x.dayKept(feast, year));
            }
        }
    }

    private static void dueIs(TwoTownAlmanac x, String told, int year, int want) {
        Check.due(18, "dayDue in year " + year + " of " + told, x.dayDue(0, year), want);
        Check.due(19, "dayKept in year " + year + " of " + told, x.dayKept(0, year), want);
    }

    /** A day behind the last one of the month is due on the first day of the next month, if there is one. */
    private static void promise18ShortMonths() {
        for (int month = 1; month <= 12; month++) {
            for (int day = 28; day <= 31; day++) {
                int firstOfA = (month - 1) * 30 + (month - 1) / 2;
                int lengthOfA = month % 2 == 1 ? 30 : 31;
                String told = ", month " + month + ", day " + day;
                dueIs(Make.withFeast(0, month, day), "town 0" + told, 1, firstOfA + Math.min(day - 1, lengthOfA));
                boolean none = month == 12 && day > 28;
                int ofB = (month - 1) * 28 + Math.min(day - 1, 28);
                dueIs(Make.withFeast(1, month, day), "town 1" + told, 1, none ? -1 : ofB);
                dueIs(Make.withFeast(1, month, day), "town 1" + told, 60, none ? -1 : 59 * 336 + ofB);
            }
        }
    }

    private static void promise18LeftOutDates() {
        // town 0 has 20.1. on day 19 and 10.2. on day 20
        int[][] datesAndDays = {{1, 20, 19}, {1, 21, 20}, {1, 30, 20}, {1, 31, 20}, {2, 1, 20}, {2, 9, 20},
            {2, 10, 20}, {2, 11, 21}};
        for (int[] date : datesAndDays) {
            TwoTownAlmanac x = Make.withFeast(0, date[0], date[1]);
            x.addGap(0, 19, 19);
            dueIs(x, "month " + date[0] + ", day " + date[1], 1, date[2]);
        }
        // the other town's gap leaves nothing out
        TwoTownAlmanac other = Make.withFeast(0, 1, 21);
        other.addGap(1, 19, 19);
        dueIs(other, "month 1, day 21", 1, 20);
        // 29.1. to 31.1. of town 1 and 1.2. are all due on the first day of a later date
        for (int day = 29; day <= 31; day++) {
            TwoTownAlmanac x = Make.withFeast(1, 1, day);
            x.addGap(1, 20, 7);
            dueIs(x, "day " + day + ", 1.2. just kept", 1, 21);
            x.addGap(1, 21, 7);
            dueIs(x, "day " + day + ", 1.2. just kept, 2.2. left out", 1, 21);
            x.undo();
            x.undo();
            x.addGap(1, 20, 8);
            dueIs(x, "day " + day + ", 1.2. left out", 1, 21);
        }
    }

    /** A gap up to a year's last day, one day shorter, and one that goes on into the next year. */
    private static void promise18LastDayOfTheYear() {
        int[] lengths = {4, 5, 6, 40};
        for (int length : lengths) {
            TwoTownAlmanac x = new TwoTownAlmanac();
            x.addFeast(0, 12, 27);
            x.addFeast(0, 12, 31);
            x.addFeast(0, 1, 1);
            x.addGap(0, 360, length);
            String with = " with a gap of " + length;
            // day 361 is 31.12.1 with a gap of 4, 1.1.2 with 5, 2.1.2 with 6, 6.2.2 with 40
            Check.due(18, "dayDue(0, 1)" + with, x.dayDue(0, 1), length == 4 ? 361 : -1);
            Check.due(19, "dayKept(1, 1)" + with, x.dayKept(1, 1), length == 4 ? 361 : -1);
            Check.due(18, "dayDue(1, 1)" + with, x.dayDue(1, 1), length == 4 ? 361 : -1);
            Check.due(18, "dayDue(2, 1)" + with, x.dayDue(2, 1), 0);
            Check.due(18, "dayDue(2, 2)" + with, x.dayDue(2, 2), length == 4 ? 362 : 361);
            Check.due(18, "dayDue(0, 2)" + with, x.dayDue(0, 2), 366 + 361 - length);
        }
        TwoTownAlmanac moved = new TwoTownAlmanac();
        moved.addFeast(0, 12, 31);
        moved.addGap(0, 360, 5);
        for (int weekday = 0; weekday < 7; weekday++) {
            moved.barWeekday(0, weekday);
            Check.due(19, "dayKept(0, 1), not due", moved.dayKept(0, 1), -1);
        }
    }

    private static void promise19Shift() {
        int[] later = {1, 2, 3, 4, 5, 6, 1, 8, 9};
        for (int shift = 1; shift <= 9; shift++) {
            TwoTownAlmanac x = Make.withFeast(1, 1, 6);
            x.setShift(shift);
            for (int weekday = 0; weekday < 7; weekday++) {
                x.barWeekday(0, weekday);
                String with = " with weekday " + weekday + " barred and a shift of " + shift;
                Check.due(18, "dayDue(0, 1)" + with, x.dayDue(0, 1), 5);
                Check.due(19, "dayKept(0, 1)" + with, x.dayKept(0, 1), weekday == 5 ? 5 + later[shift - 1] : 5);
            }
        }
        // day 0 is a weekday 0, day 13 the last day before weekday 0 comes again
        TwoTownAlmanac first = Make.withFeast(0, 1, 1);
        first.barWeekday(0, 0);
        Check.due(19, "dayKept(0, 1) of day 0", first.dayKept(0, 1), 1);
        TwoTownAlmanac last = Make.withFeast(0, 1, 14);
        last.barWeekday(0, 6);
        Check.due(19, "dayKept(0, 1) of day 13", last.dayKept(0, 1), 14);
        // a feast that is due later because its date is left out is moved from the day on which it is due
        TwoTownAlmanac both = Make.withFeast(0, 1, 3);
        both.addGap(0, 1, 3);
        both.barWeekday(0, 2);
        Check.due(18, "dayDue(0, 1)", both.dayDue(0, 1), 2);
        Check.due(19, "dayKept(0, 1)", both.dayKept(0, 1), 3);
    }

    private static void promise19NextYear() {
        int[] dues = {356, 357, 364, 365};
        for (int due : dues) {
            TwoTownAlmanac x = Make.withFeast(0, 12, due - 335 + 1);
            x.barWeekday(0, due % 7);
            x.setShift(9);
            Check.due(19, "dayKept(0, 1) of day " + due, x.dayKept(0, 1), due + 9);
            Check.due(19, "its year", x.yearOf(0, due + 9), due == 356 ? 1 : 2);
            Check.due(20, "isKept on day " + (due + 9), x.isKept(0, due + 9), true);
            Check.due(20, "isKept on day " + due, x.isKept(0, due), false);
            Check.due(21, "feastsOn day " + (due + 9), x.feastsOn(due + 9), 1);
        }
        TwoTownAlmanac last = Make.withFeast(0, 12, 31);
        last.barWeekday(0, (60 * 366 - 1) % 7);
        Check.due(19, "dayKept(0, 60)", last.dayKept(0, 60), 60 * 366);
    }

    /** Feasts 4 and 5 are kept on day 20000, 24.8. of town 0 and 9.7. of town 1; feast 6 on day 0. */
    private static TwoTownAlmanac firstAndLastDay() {
        TwoTownAlmanac x = Make.busy(0, 0, 4);
        x.addFeast(0, 8, 24);
        x.addFeast(1, 7, 9);
        x.addFeast(0, 1, 1);
        return x;
    }

    private static void promise20Parameters() {
        feastEdges(20, "isKept(?, 1)", (x, feast) -> x.isKept(feast, 1) ? 1 : 0, 1, (x, last) -> last < 2 ? 1 : 0);
        for (int feast = 4; feast < 6; feast++) {
            int chosen = feast;
            new Edge(20, "isKept(" + feast + ", ?)", FeastEdgesTest::firstAndLastDay,
                    (x, day) -> x.isKept(chosen, day) ? 1 : 0).least(0, 0).greatest(20000, 1).outside(ARGUMENT);
        }
        new Edge(20, "isKept(6, ?)", FeastEdgesTest::firstAndLastDay, (x, day) -> x.isKept(6, day) ? 1 : 0)
                .least(0, 1).greatest(20000, 0).outside(ARGUMENT);
        for (int feast : NO_FEASTS) {
            for (int day : new int[] {-1, 20001, LEAST, GREATEST}) {
                Check.refused(20, "isKept(" + feast + ", " + day + ")", INDEX, Make::busy, x -> x.isKept(feast, day));
            }
        }
    }

    private static void promise20WhateverYear() {
        TwoTownAlmanac x = Make.withFeast(1, 12, 28);
        for (int year = 1; year < 60; year++) {
            int due = year * 336 - 1;
            Check.due(20, "isKept(0, " + due + ")", x.isKept(0, due), true);
            Check.due(20, "isKept(0, " + (due - 1) + ")", x.isKept(0, due - 1), false);
            Check.due(20, "isKept(0, " + (due + 1) + ")", x.isKept(0, due + 1), false);
        }
        // the same feast on two days near a new year: moved out of year 1, and in year 2
        TwoTownAlmanac near = Make.withFeast(0, 1, 1);
        near.addGap(0, 0, 40);
        near.barWeekday(0, 0);
        Check.due(20, "isKept(0, 1)", near.isKept(0, 1), true);
        Check.due(20, "isKept(0, 326)", near.isKept(0, 326), true);
        // a feast of year 60 that is moved to day 20000, and one that is moved behind it
        TwoTownAlmanac last = Make.withFeast(1, 7, 1);
        last.barWeekday(0, 19992 % 7);
        last.setShift(8);
        Check.due(20, "isKept(0, 20000)", last.isKept(0, 20000), true);
        last.setShift(9);
        Check.due(20, "isKept(0, 20000)", last.isKept(0, 20000), false);
        Check.due(20, "isKept(0, 19992)", last.isKept(0, 19992), false);
    }

    private static void promise21() {
        Supplier<TwoTownAlmanac> none = withFeasts(0);
        new Edge(21, "feastsOn(?) of none", none, TwoTownAlmanac::feastsOn)
                .least(0, 0).greatest(20000, 0).outside(ARGUMENT);
        Supplier<TwoTownAlmanac> made = () -> {
            TwoTownAlmanac x = Make.busy(0, 0, 0);
            for (int feast = 0; feast < 10; feast++) {
                x.addFeast(feast % 2, feast % 2 == 0 ? 8 : 7, feast % 2 == 0 ? 24 : 9);
            }
            return x;
        };
        new Edge(21, "feastsOn(?) of ten", made, TwoTownAlmanac::feastsOn)
                .least(0, 0).greatest(20000, 1023).outside(ARGUMENT);
        for (int count = 1; count <= 10; count++) {
            TwoTownAlmanac x = new TwoTownAlmanac();
            for (int feast = 0; feast < count; feast++) {
                x.addFeast(feast % 2, 1, 1);
            }
            Check.due(21, "feastsOn(0) of " + count, x.feastsOn(0), (1 << count) - 1);
            Check.due(21, "feastsOn(1) of " + count, x.feastsOn(1), 0);
            x.barWeekday(count - 1, 0);
            Check.due(21, "feastsOn(0) with the last one moved", x.feastsOn(0), (1 << count - 1) - 1);
            Check.due(21, "feastsOn(1) with the last one moved", x.feastsOn(1), 1 << count - 1);
        }
    }

    private static void promise22() {
        new Edge(22, "isQuarrel(?)", FeastEdgesTest::firstAndLastDay, (x, day) -> x.isQuarrel(day) ? 1 : 0)
                .least(0, 0).greatest(20000, 1).outside(ARGUMENT);
        Supplier<TwoTownAlmanac> onDay0 = () -> {
            TwoTownAlmanac x = firstAndLastDay();
            x.addFeast(1, 1, 1);
            x.addGap(1, 9999, 1);
            return x;
        };
        new Edge(22, "isQuarrel(?)", onDay0, (x, day) -> x.isQuarrel(day) ? 1 : 0)
                .least(0, 1).greatest(20000, 0).outside(ARGUMENT);
        for (int town = 0; town < 2; town++) {
            TwoTownAlmanac oneTown = new TwoTownAlmanac();
            for (int feast = 0; feast < 9; feast++) {
                oneTown.addFeast(town, 1, 1);
            }
            Check.due(22, "isQuarrel(0) with nine feasts of one town", oneTown.isQuarrel(0), false);
            oneTown.addFeast(1 - town, 1, 1);
            Check.due(22, "isQuarrel(0) with a tenth of the other", oneTown.isQuarrel(0), true);
            Check.due(22, "isQuarrel(1)", oneTown.isQuarrel(1), false);
        }
    }
}
