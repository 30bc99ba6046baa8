import java.util.function.Supplier;

/** Promises 1 to 11, one method a promise: every boundary that the document names. */
public final class CalendarEdgesTest {
    private static final Class<IndexOutOfBoundsException> INDEX = IndexOutOfBoundsException.class;
    private static final Class<IllegalArgumentException> ARGUMENT = IllegalArgumentException.class;
    private static final Class<IllegalStateException> STATE = IllegalStateException.class;
    private static final int LEAST = Integer.MIN_VALUE;
    private static final int GREATEST = Integer.MAX_VALUE;

    public static void main(String[] args) {
        Check.run(1, CalendarEdgesTest::promise1NewObject);
        Check.run(1, CalendarEdgesTest::promise1ObjectsShareNothing);
        Check.run(2, CalendarEdgesTest::promise2Parameters);
        Check.run(2, CalendarEdgesTest::promise2LaterThanTheLatestGap);
        Check.run(2, CalendarEdgesTest::promise2Rows);
        Check.run(2, CalendarEdgesTest::promise2OrderOfThrows);
        Check.run(2, CalendarEdgesTest::promise2DaysLeftOut);
        Check.run(3, CalendarEdgesTest::promise3);
        Check.run(4, CalendarEdgesTest::promises4And5);
        Check.run(6, CalendarEdgesTest::promise6);
        Check.run(7, CalendarEdgesTest::promises7To9);
        Check.run(7, CalendarEdgesTest::promises7To9Boundaries);
        Check.run(10, CalendarEdgesTest::promise10);
        Check.run(11, CalendarEdgesTest::promise11Parameters);
        Check.run(11, CalendarEdgesTest::promise11Boundaries);
        Check.run(11, CalendarEdgesTest::promise11LeftOutDates);
        Check.covered(1, 11);
        Check.end("CalendarEdgesTest");
    }

    private static void promise1NewObject() {
        Supplier<TwoTownAlmanac> made = TwoTownAlmanac::new;
        for (int town = 0; town < 2; town++) {
            int chosen = town;
            Check.refused(1, "gapDay(" + town + ", 0)", INDEX, made, x -> x.gapDay(chosen, 0));
            Check.refused(1, "gapLength(" + town + ", 0)", INDEX, made, x -> x.gapLength(chosen, 0));
            Check.refused(1, "loadState(" + town + ")", STATE, made, x -> x.loadState(chosen));
        }
        Check.refused(1, "feastTown(0)", INDEX, made, x -> x.feastTown(0));
        Check.refused(1, "textCharacter(0)", INDEX, made, x -> x.textCharacter(0));
        Check.refused(1, "dayOfText()", STATE, made, TwoTownAlmanac::dayOfText);
        Check.refused(1, "undo()", STATE, made, TwoTownAlmanac::undo);
        TwoTownAlmanac x = made.get();
        Check.due(1, "textError()", x.textError(), 0);
        Check.due(1, "feastsOn(0)", x.feastsOn(0), 0);
        Check.due(1, "quarrelsWithin(400)", x.quarrelsWithin(400), 0);
        Check.due(1, "shift()", x.shift(), 1);
        Check.due(1, "copiesPerDay()", x.copiesPerDay(), 2);
        x.passDays(1);
        Check.due(1, "copiesMade() after a day", x.copiesMade(), 2);
    }

    private static void promise1ObjectsShareNothing() {
        TwoTownAlmanac x = new TwoTownAlmanac();
        String before = Check.stateOf(x);
        Make.busy(3, 3, 10);
        Check.same(1, "the state after another object's calls", Check.stateOf(x), before);
        Check.due(1, "textLength() after another object's calls", x.textLength(), 0);
        Check.due(1, "undoCount() after another object's calls", x.undoCount(), 0);
        Check.same(1, "a new state after another object's calls", Check.stateOf(new TwoTownAlmanac()), before);
    }

    private static void promise2Parameters() {
        new Edge(2, "addGap(?, 200, 1)", Make::busy, (x, town) -> x.addGap(town, 200, 1))
                .least(0, 3).greatest(1, 3).outside(INDEX);
        for (int town = 0; town < 2; town++) {
            int chosen = town;
            Supplier<TwoTownAlmanac> noGaps = () -> Make.busy(0, 0, 4);
            new Edge(2, "addGap(" + town + ", ?, 1)", noGaps, (x, day) -> x.addGap(chosen, day, 1))
                    .least(0, 1).greatest(9999, 1).outside(ARGUMENT);
            new Edge(2, "addGap(" + town + ", 9999, ?)", Make::busy, (x, length) -> x.addGap(chosen, 9999, length))
                    .least(1, 3).greatest(40, 3).outside(ARGUMENT);
            new Edge(2, "addGap(" + town + ", 0, ?)", noGaps, (x, length) -> x.addGap(chosen, 0, length))
                    .least(1, 1).greatest(40, 1).outside(ARGUMENT);
        }
    }

    private static void promise2LaterThanTheLatestGap() {
        // the latest gaps lie after days 100 and 110, then after days 150 and 160
        for (int town = 0; town < 2; town++) {
            int chosen = town;
            int first = 100 + 10 * town;
            new Edge(2, "addGap(" + town + ", ?, 1) of a second gap", () -> Make.busy(1, 1, 4),
                    (x, day) -> x.addGap(chosen, day, 1)).least(first + 1, 2).greatest(9999, 2).outside(ARGUMENT);
            new Edge(2, "addGap(" + town + ", ?, 1) of a third gap", Make::busy,
                    (x, day) -> x.addGap(chosen, day, 1)).least(first + 51, 3).greatest(9999, 3).outside(ARGUMENT);
            for (int day : new int[] {0, first, first + 49}) {
                Check.refused(2, "addGap(" + town + ", " + day + ", 1) of a third gap", ARGUMENT, Make::busy,
                        x -> x.addGap(chosen, day, 1));
            }
        }
        // behind a gap after day 0 and after day 9999
        new Edge(2, "addGap(0, ?, 1) behind day 0", () -> Make.withGaps(0, 0, 1), (x, day) -> x.addGap(0, day, 1))
                .least(1, 2).greatest(9999, 2).outside(ARGUMENT);
        for (int day : new int[] {0, 9998, 9999, 10000, LEAST, GREATEST}) {
            Check.refused(2, "addGap(0, " + day + ", 1) behind day 9999", ARGUMENT, () -> Make.withGaps(0, 9999, 1),
                    x -> x.addGap(0, day, 1));
        }
        // the other town's gaps don't count
        Check.due(2, "addGap(1, 0, 1)", Make.withGaps(0, 9999, 1).addGap(1, 0, 1), 1);
    }

    private static void promise2Rows() {
        for (int town = 0; town < 2; town++) {
            TwoTownAlmanac x = new TwoTownAlmanac();
            for (int gaps = 0; gaps < 3; gaps++) {
                Check.due(2, "addGap with " + gaps + " gaps", x.addGap(town, gaps, 40), gaps + 1);
            }
            Check.due(2, "gapCount of the other town", x.gapCount(1 - town), 0);
            Check.due(2, "addGap of the other town", x.addGap(1 - town, 0, 1), 1);
            int full = town;
            Supplier<TwoTownAlmanac> made = () -> Make.busy(3 - full, 2 + full, 4);
            Check.refused(2, "addGap of a fourth gap", STATE, made, y -> y.addGap(full, 9999, 1));
            Check.refused(2, "addGap of a fourth gap", STATE, made, y -> y.addGap(full, 201 + 10 * full, 40));
            Check.due(2, "addGap while the other town is full", made.get().addGap(1 - full, 9999, 1), 3);
        }
    }

    private static void promise2OrderOfThrows() {
        Supplier<TwoTownAlmanac> full = () -> Make.busy(3, 3, 4);
        for (int town : new int[] {-1, 2, LEAST, GREATEST}) {
            String of = "addGap(" + town;
            Check.refused(2, of + ", 9999, 1), both full", INDEX, full, x -> x.addGap(town, 9999, 1));
            Check.refused(2, of + ", -1, 1)", INDEX, Make::busy, x -> x.addGap(town, -1, 1));
            Check.refused(2, of + ", 10000, 1)", INDEX, Make::busy, x -> x.addGap(town, 10000, 1));
            Check.refused(2, of + ", 9999, 0)", INDEX, Make::busy, x -> x.addGap(town, 9999, 0));
            Check.refused(2, of + ", 9999, 41)", INDEX, full, x -> x.addGap(town, 9999, 41));
            Check.refused(2, of + ", 100, 1), not later", INDEX, full, x -> x.addGap(town, 100, 1));
        }
        for (int town = 0; town < 2; town++) {
            int chosen = town;
            for (int day : new int[] {-1, 0, 200 + 10 * town, 10000, LEAST, GREATEST}) {
                Check.refused(2, "addGap(" + town + ", " + day + ", 1) to a full row", ARGUMENT, full,
                        x -> x.addGap(chosen, day, 1));
            }
            for (int length : new int[] {0, 41, LEAST, GREATEST}) {
                Check.refused(2, "addGap(" + town + ", 9999, " + length + ") to a full row", ARGUMENT, full,
                        x -> x.addGap(chosen, 9999, length));
            }
        }
    }

    private static void promise2DaysLeftOut() {
        for (int town = 0; town < 2; town++) {
            for (int day : new int[] {0, 9999}) {
                for (int length : new int[] {1, 40}) {
                    TwoTownAlmanac x = Make.withGaps(town, day, length);
                    TwoTownAlmanac plain = new TwoTownAlmanac();
                    String with = " with a gap of " + length + " after day " + day + " in town " + town;
                    Check.same(2, "the date of day " + day + with, date(x, town, day), date(plain, town, day));
                    Check.same(2, "the date of the day behind" + with, date(x, town, day + 1),
                            date(plain, town, day + 1 + length));
                    Check.same(2, "the other town's date" + with, date(x, 1 - town, day + 1),
                            date(plain, 1 - town, day + 1));
                }
            }
        }
    }

    private static String date(TwoTownAlmanac x, int town, int day) {
        return x.dayOfMonth(town, day) + "." + x.monthOf(town, day) + "." + x.yearOf(town, day);
    }

    private static void promise3() {
        for (int gaps = 0; gaps <= 3; gaps++) {
            int count = gaps;
            new Edge(3, "gapCount(?)", () -> Make.busy(count, 3 - count, 4), TwoTownAlmanac::gapCount)
                    .least(0, count).greatest(1, 3 - count).outside(INDEX);
        }
    }

    private static void promises4And5() {
        new Edge(4, "gapDay(?, 0)", Make::busy, (x, town) -> x.gapDay(town, 0))
                .least(0, 100).greatest(1, 110).outside(INDEX);
        new Edge(5, "gapLength(?, 0)", Make::busy, (x, town) -> x.gapLength(town, 0))
                .least(0, 1).greatest(1, 4).outside(INDEX);
        for (int town = 0; town < 2; town++) {
            for (int gaps = 0; gaps <= 3; gaps++) {
                gapEdges(town, gaps);
            }
        }
        for (int town : new int[] {-1, 2}) {
            Check.refused(4, "gapDay(" + town + ", 3)", INDEX, Make::busy, x -> x.gapDay(town, 3));
            Check.refused(5, "gapLength(" + town + ", 3)", INDEX, Make::busy, x -> x.gapLength(town, 3));
        }
    }

    /** The other town's row is full or empty, the wrong way round. */
    private static void gapEdges(int town, int gaps) {
        int others = gaps > 1 ? 0 : 3;
        Supplier<TwoTownAlmanac> made = () -> Make.busy(town == 0 ? gaps : others, town == 0 ? others : gaps, 4);
        String of = "(" + town + ", ?) with " + gaps + " gaps";
        Edge day = new Edge(4, "gapDay" + of, made, (x, gap) -> x.gapDay(town, gap));
        Edge length = new Edge(5, "gapLength" + of, made, (x, gap) -> x.gapLength(town, gap));
        if (gaps > 0) {
            int last = gaps - 1;
            day.least(0, 100 + 10 * town).greatest(last, 100 + 10 * town + 50 * last);
            length.least(0, 1 + 3 * town).greatest(last, 1 + 3 * town + last);
        }
        day.outside(INDEX);
        length.outside(INDEX);
    }

    private static void promise6() {
        new Edge(6, "monthLength(?, 1)", Make::busy, (x, town) -> x.monthLength(town, 1))
                .least(0, 30).greatest(1, 28).outside(INDEX);
        new Edge(6, "monthLength(0, ?)", Make::busy, (x, month) -> x.monthLength(0, month))
                .least(1, 30).greatest(12, 31).outside(ARGUMENT);
        new Edge(6, "monthLength(1, ?)", Make::busy, (x, month) -> x.monthLength(1, month))
                .least(1, 28).greatest(12, 28).outside(ARGUMENT);
        for (int town : new int[] {-1, 2, LEAST, GREATEST}) {
            for (int month : new int[] {0, 13, LEAST, GREATEST}) {
                Check.refused(6, "monthLength(" + town + ", " + month + ")", INDEX, Make::busy,
                        x -> x.monthLength(town, month));
            }
        }
        // a gap that leaves out whole months does not shorten them
        TwoTownAlmanac x = Make.withGaps(1, 0, 40);
        for (int month = 1; month <= 12; month++) {
            Check.due(6, "monthLength(0, " + month + ")", x.monthLength(0, month), month % 2 == 0 ? 31 : 30);
            Check.due(6, "monthLength(1, " + month + ")", x.monthLength(1, month), 28);
        }
    }

    private static void promises7To9() {
        new Edge(7, "dayOfMonth(?, 50)", Make::busy, (x, town) -> x.dayOfMonth(town, 50))
                .least(0, 21).greatest(1, 23).outside(INDEX);
        new Edge(8, "monthOf(?, 60)", Make::busy, (x, town) -> x.monthOf(town, 60))
                .least(0, 2).greatest(1, 3).outside(INDEX);
        new Edge(9, "yearOf(?, 340)", Make::busy, (x, town) -> x.yearOf(town, 340))
                .least(0, 1).greatest(1, 2).outside(INDEX);
        // 20003 = 54 * 366 + 7 * 30 + 3 + 26, and 20009 = 59 * 336 + 6 * 28 + 17
        dayEdges(0, 27, 8, 55);
        dayEdges(1, 18, 7, 60);
        for (int town : new int[] {-1, 2, LEAST, GREATEST}) {
            for (int day : new int[] {-1, 20001, LEAST, GREATEST}) {
                String of = "(" + town + ", " + day + ")";
                Check.refused(7, "dayOfMonth" + of, INDEX, Make::busy, x -> x.dayOfMonth(town, day));
                Check.refused(8, "monthOf" + of, INDEX, Make::busy, x -> x.monthOf(town, day));
                Check.refused(9, "yearOf" + of, INDEX, Make::busy, x -> x.yearOf(town, day));
            }
        }
    }

    /** The date of day 0 and, with the busy almanac's gaps, the one of day 20000. */
    private static void dayEdges(int town, int dayOfMonth, int month, int year) {
        new Edge(7, "dayOfMonth(" + town + ", ?)", Make::busy, (x, day) -> x.dayOfMonth(town, day))
                .least(0, 1).greatest(20000, dayOfMonth).outside(ARGUMENT);
        new Edge(8, "monthOf(" + town + ", ?)", Make::busy, (x, day) -> x.monthOf(town, day))
                .least(0, 1).greatest(20000, month).outside(ARGUMENT);
        new Edge(9, "yearOf(" + town + ", ?)", Make::busy, (x, day) -> x.yearOf(town, day))
                .least(0, 1).greatest(20000, year).outside(ARGUMENT);
    }

    /** The last day of each month and the first one of the next, over two new years. */
    private static void promises7To9Boundaries() {
        for (int town = 0; town < 2; town++) {
            TwoTownAlmanac x = new TwoTownAlmanac();
            int first = 0;
            for (int months = 0; months < 25; months++) {
                int month = months % 12 + 1;
                int length = town == 1 ? 28 : month % 2 == 1 ? 30 : 31;
                Check.date(x, town, first, 1, month, months / 12 + 1);
                Check.date(x, town, first + length - 1, length, month, months / 12 + 1);
                first += length;
            }
        }
        // a gap up to the last day of a month, and one day longer
        Check.date(Make.withGaps(0, 9, 20), 0, 10, 1, 2, 1);
        Check.date(Make.withGaps(0, 9, 19), 0, 10, 30, 1, 1);
        // a gap up to the last day of a year, and one day longer
        Check.date(Make.withGaps(0, 360, 5), 0, 361, 1, 1, 2);
        Check.date(Make.withGaps(0, 360, 4), 0, 361, 31, 12, 1);
        Check.date(Make.withGaps(1, 320, 15), 1, 321, 1, 1, 2);
        Check.date(Make.withGaps(1, 320, 14), 1, 321, 28, 12, 1);
        // three full gaps, one right behind the other
        TwoTownAlmanac three = Make.withGaps(1, 9997, 40, 9998, 40, 9999, 40);
        // 9997 = 29 * 336 + 9 * 28 + 1
        Check.date(three, 1, 9997, 2, 10, 30);
        Check.date(three, 1, 9998, 15, 11, 30);
        Check.date(three, 1, 9999, 28, 12, 30);
        Check.date(three, 1, 10000, 13, 2, 31);
        Check.date(three, 1, 20000, 17, 11, 60);
        Check.date(three, 0, 20000, 24, 8, 55);
    }

    private static void promise10() {
        new Edge(10, "weekday(?)", () -> Make.busy(3, 3, 4), TwoTownAlmanac::weekday)
                .least(0, 0).greatest(20000, 1).outside(ARGUMENT);
        TwoTownAlmanac x = Make.withGaps(0, 0, 40, 6, 5, 7, 3);
        int[] days = {5, 6, 7, 8, 13, 14, 9996, 9997, 10002, 10003, 19998, 19999};
        int[] weekdays = {5, 6, 0, 1, 6, 0, 0, 1, 6, 0, 6, 0};
        for (int i = 0; i < days.length; i++) {
            Check.due(10, "weekday(" + days[i] + ")", x.weekday(days[i]), weekdays[i]);
        }
    }

    private static void promise11Parameters() {
        new Edge(11, "dayOfDate(?, 1, 2, 3)", Make::busy, (x, town) -> x.dayOfDate(town, 1, 2, 3))
                .least(0, 32).greatest(1, 30).outside(INDEX);
        // the busy almanac leaves out 3 days of town 0 and 9 days of town 1 in year 1
        dateEdges(0, 59 * 366 - 3, 335 - 3, 30, 60);
        dateEdges(1, 59 * 336 - 9, 308 - 9, 28, -1);
        for (int town : new int[] {-1, 2, LEAST, GREATEST}) {
            String of = "dayOfDate(" + town;
            for (int year : new int[] {0, 61}) {
                Check.refused(11, of + ", " + year + ", 1, 1)", INDEX, Make::busy, x -> x.dayOfDate(town, year, 1, 1));
            }
            for (int month : new int[] {0, 13}) {
                Check.refused(11, of + ", 1, " + month + ", 1)", INDEX, Make::busy,
                        x -> x.dayOfDate(town, 1, month, 1));
            }
            for (int day : new int[] {0, 32}) {
                Check.refused(11, of + ", 1, 1, " + day + ")", INDEX, Make::busy, x -> x.dayOfDate(town, 1, 1, day));
            }
        }
    }

    /** The days of 1.1.60 and 1.12.1, and of days 1 and 31 of month 2. */
    private static void dateEdges(int town, int ofYear60, int ofMonth12, int ofDay1, int ofDay31) {
        String of = "dayOfDate(" + town;
        new Edge(11, of + ", ?, 1, 1)", Make::busy, (x, year) -> x.dayOfDate(town, year, 1, 1))
                .least(1, 0).greatest(60, ofYear60).outside(ARGUMENT);
        new Edge(11, of + ", 1, ?, 1)", Make::busy, (x, month) -> x.dayOfDate(town, 1, month, 1))
                .least(1, 0).greatest(12, ofMonth12).outside(ARGUMENT);
        new Edge(11, of + ", 1, 2, ?)", Make::busy, (x, day) -> x.dayOfDate(town, 1, 2, day))
                .least(1, ofDay1).greatest(31, ofDay31).outside(ARGUMENT);
    }

    private static void dayIs(TwoTownAlmanac x, int town, int year, int month, int dayOfMonth, int want) {
        String call = "dayOfDate(" + town + ", " + year + ", " + month + ", " + dayOfMonth + ")";
        Check.due(11, call, x.dayOfDate(town, year, month, dayOfMonth), want);
    }

    private static void promise11Boundaries() {
        TwoTownAlmanac x = new TwoTownAlmanac();
        for (int month = 1; month <= 12; month++) {
            int before = (month - 1) * 30 + (month - 1) / 2;
            dayIs(x, 0, 1, month, 30, before + 29);
            dayIs(x, 0, 1, month, 31, month % 2 == 0 ? before + 30 : -1);
            dayIs(x, 1, 1, month, 28, month * 28 - 1);
            dayIs(x, 1, 1, month, 29, -1);
            dayIs(x, 1, 1, month, 31, -1);
        }
        // days 20000 and 20001, and the last date that can be asked for
        dayIs(x, 0, 55, 8, 24, 20000);
        dayIs(x, 0, 55, 8, 25, 20001);
        dayIs(x, 0, 60, 12, 31, 60 * 366 - 1);
        dayIs(x, 1, 60, 7, 9, 20000);
        dayIs(x, 1, 60, 7, 10, 20001);
        dayIs(x, 1, 60, 12, 28, 60 * 336 - 1);
        dayIs(x, 1, 60, 12, 29, -1);
        dayIs(Make.withGaps(0, 9997, 40, 9998, 40, 9999, 40), 0, 60, 12, 31, 60 * 366 - 1 - 120);
    }

    private static void promise11LeftOutDates() {
        // 1.2. to 9.3. of town 0 are left out: day 29 is 30.1., day 30 is 10.3.
        TwoTownAlmanac x = Make.withGaps(0, 29, 40);
        dayIs(x, 0, 1, 1, 30, 29);
        dayIs(x, 0, 1, 2, 1, -1);
        dayIs(x, 0, 1, 2, 31, -1);
        dayIs(x, 0, 1, 3, 9, -1);
        dayIs(x, 0, 1, 3, 10, 30);
        dayIs(x, 0, 2, 2, 1, 366 + 30 - 40);
        // one day, 28.12.1 of town 1
        TwoTownAlmanac one = Make.withGaps(1, 334, 1);
        dayIs(one, 1, 1, 12, 27, 334);
        dayIs(one, 1, 1, 12, 28, -1);
        dayIs(one, 1, 2, 1, 1, 335);
        // days 0 to 3 have the calendar's days 0, 41, 82 and 123
        TwoTownAlmanac three = Make.withGaps(1, 0, 40, 1, 40, 2, 40);
        int[] days = {0, 41, 82, 123};
        for (int i = 0; i < 4; i++) {
            dayIs(three, 1, 1, days[i] / 28 + 1, days[i] % 28 + 1, i);
            int next = days[i] + 1;
            dayIs(three, 1, 1, next / 28 + 1, next % 28 + 1, i < 3 ? -1 : 4);
            if (i > 0) {
                int last = days[i] - 1;
                dayIs(three, 1, 1, last / 28 + 1, last % 28 + 1, -1);
            }
        }
        dayIs(three, 1, 1, 12, 28, 335 - 120);
    }
}
