import java.util.function.Supplier;
import java.util.function.ToIntFunction;

/** Promises 23 to 31, one method a promise: every boundary that the document names. */
public final class PassingEdgesTest {
    private static final Class<IndexOutOfBoundsException> INDEX = IndexOutOfBoundsException.class;
    private static final Class<IllegalArgumentException> ARGUMENT = IllegalArgumentException.class;
    private static final Class<IllegalStateException> STATE = IllegalStateException.class;
    private static final int[] NO_DAYS = {0, 401, -1, Integer.MIN_VALUE, Integer.MAX_VALUE};

    public static void main(String[] args) {
        Check.run(23, PassingEdgesTest::promises23And24);
        Check.run(25, PassingEdgesTest::promises25And26);
        Check.run(27, PassingEdgesTest::promise27Parameter);
        Check.run(27, PassingEdgesTest::promise27LastDay);
        Check.run(27, PassingEdgesTest::promise27OrderOfThrows);
        Check.run(27, PassingEdgesTest::promise27QuarrelsOfTheFirstAndTheLastDay);
        Check.run(28, PassingEdgesTest::promise28);
        Check.run(29, PassingEdgesTest::promise29);
        Check.run(30, PassingEdgesTest::promise30);
        Check.run(31, PassingEdgesTest::promise31);
        Check.covered(23, 31);
        Check.end("PassingEdgesTest");
    }

    private static TwoTownAlmanac busyOnDay(int day) {
        TwoTownAlmanac x = Make.passTo(Make.busy(), day - 1);
        x.saveState(1);
        x.passDays(1);
        return x;
    }

    private static void promises23And24() {
        new Edge(23, "setShift(?)", Make::busy, TwoTownAlmanac::setShift).least(1, 4).greatest(9, 4).outside(ARGUMENT);
        TwoTownAlmanac x = new TwoTownAlmanac();
        Check.due(24, "shift()", x.shift(), 1);
        int before = 1;
        for (int shift : new int[] {1, 9, 9, 8, 7, 6, 5, 4, 3, 2, 1, 1}) {
            Check.due(23, "setShift(" + shift + ")", x.setShift(shift), before);
            Check.due(24, "shift()", x.shift(), shift);
            before = shift;
        }
    }

    private static void promises25And26() {
        new Edge(25, "setCopiesPerDay(?)", Make::busy, TwoTownAlmanac::setCopiesPerDay)
                .least(0, 5).greatest(9, 5).outside(ARGUMENT);
        TwoTownAlmanac x = new TwoTownAlmanac();
        Check.due(26, "copiesPerDay()", x.copiesPerDay(), 2);
        int before = 2;
        for (int copies : new int[] {0, 0, 9, 9, 8, 7, 6, 5, 4, 3, 2, 1}) {
            Check.due(25, "setCopiesPerDay(" + copies + ")", x.setCopiesPerDay(copies), before);
            Check.due(26, "copiesPerDay()", x.copiesPerDay(), copies);
            before = copies;
        }
    }

    private static void promise27Parameter() {
        // the busy almanac's feasts come again on days 328 and 329 for town 1, on 364 and 365 for town 0
        new Edge(27, "passDays(?)", Make::busy, TwoTownAlmanac::passDays)
                .least(1, 0).greatest(400, 0).outside(ARGUMENT);
        new Edge(27, "passDays(?) on day 1", () -> quarrelsOnDay1And400(1), TwoTownAlmanac::passDays)
                .least(1, 1).greatest(400, 2).outside(ARGUMENT);
        for (int days : new int[] {1, 2, 399, 400}) {
            TwoTownAlmanac x = Make.busy();
            x.passDays(days);
            Check.due(27, "today() after passDays(" + days + ")", x.today(), 8 + days);
        }
    }

    /** Town 0 keeps a feast on days 1 and 400, and town 1 too, in year 1 and in year 2. */
    private static TwoTownAlmanac quarrelsOnDay1And400(int today) {
        TwoTownAlmanac x = new TwoTownAlmanac();
        x.addFeast(0, 1, 2);
        x.addFeast(1, 1, 2);
        // 400 = 366 + 30 + 4 = 336 + 2 * 28 + 8
        x.addFeast(0, 2, 5);
        x.addFeast(1, 3, 9);
        return Make.passTo(x, today);
    }

    private static void promise27LastDay() {
        int[][] daysAndTodays = {{1, 9998}, {2, 9997}, {399, 9600}, {400, 9599}};
        for (int[] pair : daysAndTodays) {
            int days = pair[0];
            int today = pair[1];
            TwoTownAlmanac x = busyOnDay(today);
            x.passDays(days);
            Check.due(27, "today() after passDays(" + days + ") on day " + today, x.today(), 9999);
            Check.refused(27, "passDays(" + days + ") on day " + (today + 1), STATE, () -> busyOnDay(today + 1),
                    y -> y.passDays(days));
        }
        for (int days : new int[] {1, 2, 399, 400}) {
            Check.refused(27, "passDays(" + days + ") on day 9999", STATE, () -> busyOnDay(9999),
                    y -> y.passDays(days));
        }
        // day 9998 is the last one that can pass: what is kept on day 9999 is never counted
        TwoTownAlmanac last = new TwoTownAlmanac();
        feastsOn(last, 9998);
        Make.passTo(last, 9998);
        Check.due(27, "passDays(1) on day 9998", last.passDays(1), 1);
        TwoTownAlmanac behind = new TwoTownAlmanac();
        feastsOn(behind, 9999);
        Make.passTo(behind, 9998);
        Check.due(27, "passDays(1) on day 9998", behind.passDays(1), 0);
        Check.due(27, "isQuarrel(9999)", behind.isQuarrel(9999), true);
    }

    private static void feastsOn(TwoTownAlmanac x, int day) {
        for (int town = 0; town < 2; town++) {
            x.addFeast(town, x.monthOf(town, day), x.dayOfMonth(town, day));
        }
    }

    private static void promise27OrderOfThrows() {
        for (int days : NO_DAYS) {
            for (int today : new int[] {9599, 9600, 9998, 9999}) {
                Check.refused(27, "passDays(" + days + ") on day " + today, ARGUMENT, () -> busyOnDay(today),
                        x -> x.passDays(days));
            }
        }
    }

    private static void promise27QuarrelsOfTheFirstAndTheLastDay() {
        int[] todays = {0, 1, 2};
        int[] quarrelsOf399 = {1, 1, 1};
        int[] quarrelsOf400 = {1, 2, 1};
        for (int i = 0; i < todays.length; i++) {
            Check.due(27, "passDays(399) on day " + todays[i], quarrelsOnDay1And400(todays[i]).passDays(399),
                    quarrelsOf399[i]);
            Check.due(27, "passDays(400) on day " + todays[i], quarrelsOnDay1And400(todays[i]).passDays(400),
                    quarrelsOf400[i]);
        }
        TwoTownAlmanac every = new TwoTownAlmanac();
        for (int day = 1; day <= 5; day++) {
            every.addFeast(0, 1, day);
            every.addFeast(1, 1, day);
        }
        Check.due(27, "passDays(5), all quarrels", every.passDays(5), 5);
    }

    private static void promise28() {
        TwoTownAlmanac x = new TwoTownAlmanac();
        Check.due(28, "today()", x.today(), 0);
        for (int i = 1; i <= 24; i++) {
            x.passDays(400);
            Check.due(28, "today()", x.today(), 400 * i);
        }
        x.passDays(399);
        Check.due(28, "today()", x.today(), 9999);
        Check.due(28, "quarrelCount() of a plain almanac", x.quarrelCount(), 0);
        Check.due(31, "copiesMade() of 9999 days", x.copiesMade(), 2 * 9999);
    }

    private static void promise29() {
        // both towns' feasts have been kept on days 1 and 2
        new Edge(29, "feastsKept(?)", Make::busy, TwoTownAlmanac::feastsKept).least(0, 2).greatest(1, 2).outside(INDEX);
        new Edge(29, "feastsKept(?) of no feasts", () -> Make.busy(3, 3, 0), TwoTownAlmanac::feastsKept)
                .least(0, 0).greatest(1, 0).outside(INDEX);
        new Edge(29, "feastsKept(?) of ten feasts", () -> Make.busy(3, 3, 10), TwoTownAlmanac::feastsKept)
                .least(0, 5).greatest(1, 5).outside(INDEX);
        countedFrom(29, x -> x.feastsKept(0));
        countedFrom(29, x -> x.feastsKept(1));
        TwoTownAlmanac many = new TwoTownAlmanac();
        for (int feast = 0; feast < 10; feast++) {
            many.addFeast(feast < 9 ? 0 : 1, 1, 1);
        }
        many.passDays(1);
        Check.due(29, "feastsKept(0) of nine on a day", many.feastsKept(0), 9);
        Check.due(29, "feastsKept(1) of one on a day", many.feastsKept(1), 1);
    }

    /** What happens on day 10 counts when day 10 has passed, neither before nor twice. */
    private static void countedFrom(int promise, ToIntFunction<TwoTownAlmanac> count) {
        TwoTownAlmanac x = new TwoTownAlmanac();
        feastsOn(x, 10);
        Check.due(promise, "the count on day 0", count.applyAsInt(x), 0);
        x.passDays(10);
        Check.due(promise, "the count on day 10", count.applyAsInt(x), 0);
        x.passDays(1);
        Check.due(promise, "the count on day 11", count.applyAsInt(x), 1);
        x.passDays(1);
        Check.due(promise, "the count on day 12", count.applyAsInt(x), 1);
        x.undo();
        Check.due(promise, "the count on day 11 again", count.applyAsInt(x), 1);
        x.undo();
        Check.due(promise, "the count on day 10 again", count.applyAsInt(x), 0);
    }

    private static void promise30() {
        countedFrom(30, TwoTownAlmanac::quarrelCount);
        // several feasts of both towns on a day are one quarrel
        TwoTownAlmanac x = new TwoTownAlmanac();
        for (int feast = 0; feast < 10; feast++) {
            x.addFeast(feast % 2, 1, 1);
        }
        x.passDays(1);
        Check.due(30, "quarrelCount()", x.quarrelCount(), 1);
        x.passDays(335);
        Check.due(30, "quarrelCount() before day 336", x.quarrelCount(), 1);
        x.passDays(400);
        Check.due(30, "quarrelCount()", x.quarrelCount(), 1);
        // one town's feasts are none
        TwoTownAlmanac oneTown = new TwoTownAlmanac();
        oneTown.addFeast(1, 1, 1);
        oneTown.addFeast(1, 1, 1);
        oneTown.passDays(1);
        Check.due(30, "quarrelCount() of one town", oneTown.quarrelCount(), 0);
    }

    private static void promise31() {
        for (int copies = 0; copies <= 9; copies++) {
            TwoTownAlmanac x = new TwoTownAlmanac();
            x.setCopiesPerDay(copies);
            x.addFeast(1, 1, 2);
            String with = " with " + copies + " a day";
            x.passDays(1);
            Check.due(31, "copiesMade() of a day without a feast" + with, x.copiesMade(), copies);
            x.passDays(1);
            Check.due(31, "copiesMade() of a day with a feast" + with, x.copiesMade(), copies);
            x.passDays(335);
            Check.due(31, "copiesMade() of 335 days without a feast" + with, x.copiesMade(), 336 * copies);
            x.passDays(1);
            Check.due(31, "copiesMade() of another feast's day" + with, x.copiesMade(), 336 * copies);
        }
        Supplier<TwoTownAlmanac> most = () -> {
            TwoTownAlmanac x = new TwoTownAlmanac();
            x.setCopiesPerDay(9);
            return Make.passTo(x, 9999);
        };
        Check.due(31, "copiesMade(), the most", most.get().copiesMade(), 9 * 9999);
        // a quarrel's day and the day of a moved feast are days of feasts
        TwoTownAlmanac x = new TwoTownAlmanac();
        x.addFeast(0, 1, 1);
        x.barWeekday(0, 0);
        x.passDays(1);
        Check.due(31, "copiesMade() of the day on which a moved feast was due", x.copiesMade(), 2);
        x.passDays(1);
        Check.due(31, "copiesMade() of the day to which it was moved", x.copiesMade(), 2);
    }
}
