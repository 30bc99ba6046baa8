import java.util.function.Supplier;

/** Promises 23 to 31: the shift, the monks, passing days. */
public final class PassingTest {
    private static final Class<IndexOutOfBoundsException> INDEX = IndexOutOfBoundsException.class;
    private static final Class<IllegalArgumentException> ARGUMENT = IllegalArgumentException.class;
    private static final Class<IllegalStateException> STATE = IllegalStateException.class;

    public static void main(String[] args) {
        shiftIsSet();
        copiesAreSet();
        daysPass();
        todayIsTheFirstToPass();
        movedFeastsAreCounted();
        countsStay();
        todayHasAnEnd();
        wrongInputs();
        Check.end("PassingTest");
    }

    private static TwoTownAlmanac onDay(int day) {
        TwoTownAlmanac x = new TwoTownAlmanac();
        while (x.today() + 400 <= day) {
            x.passDays(400);
        }
        if (x.today() < day) {
            x.passDays(day - x.today());
        }
        return x;
    }

    private static void shiftIsSet() {
        TwoTownAlmanac x = new TwoTownAlmanac();
        Check.due(23, "setShift(9)", x.setShift(9), 1);
        Check.due(24, "shift()", x.shift(), 9);
        Check.due(23, "setShift(7)", x.setShift(7), 9);
        Check.due(24, "shift()", x.shift(), 7);
        Check.due(23, "setShift(1)", x.setShift(1), 7);
        Check.due(24, "shift()", x.shift(), 1);
        Check.due(23, "undoCount()", x.undoCount(), 3);
    }

    private static void copiesAreSet() {
        TwoTownAlmanac x = new TwoTownAlmanac();
        Check.due(25, "setCopiesPerDay(0)", x.setCopiesPerDay(0), 2);
        Check.due(26, "copiesPerDay()", x.copiesPerDay(), 0);
        x.passDays(10);
        Check.due(31, "copiesMade()", x.copiesMade(), 0);
        Check.due(25, "setCopiesPerDay(9)", x.setCopiesPerDay(9), 0);
        Check.due(26, "copiesPerDay()", x.copiesPerDay(), 9);
        x.passDays(10);
        Check.due(31, "copiesMade()", x.copiesMade(), 90);
    }

    private static void daysPass() {
        TwoTownAlmanac x = new TwoTownAlmanac();
        x.addFeast(0, 1, 4);
        x.addFeast(0, 1, 4);
        x.addFeast(1, 1, 4);
        x.addFeast(1, 1, 6);
        Check.due(27, "passDays(3)", x.passDays(3), 0);
        Check.due(28, "today()", x.today(), 3);
        Check.due(31, "copiesMade()", x.copiesMade(), 6);
        Check.due(27, "passDays(1)", x.passDays(1), 1);
        Check.due(28, "today()", x.today(), 4);
        Check.due(29, "feastsKept(0)", x.feastsKept(0), 2);
        Check.due(29, "feastsKept(1)", x.feastsKept(1), 1);
        Check.due(30, "quarrelCount()", x.quarrelCount(), 1);
        Check.due(31, "copiesMade()", x.copiesMade(), 6);
        Check.due(27, "passDays(400)", x.passDays(400), 0);
        Check.due(28, "today()", x.today(), 404);
        Check.due(29, "feastsKept(0)", x.feastsKept(0), 4);
        Check.due(29, "feastsKept(1)", x.feastsKept(1), 4);
        Check.due(30, "quarrelCount()", x.quarrelCount(), 1);
        // feasts are on days 5, 339, 341 and 369
        Check.due(31, "copiesMade()", x.copiesMade(), 6 + 2 * (400 - 4));
    }

    private static void todayIsTheFirstToPass() {
        TwoTownAlmanac x = new TwoTownAlmanac();
        x.addFeast(0, 1, 1);
        x.addFeast(1, 1, 1);
        x.addFeast(1, 1, 2);
        Check.due(27, "passDays(1)", x.passDays(1), 1);
        Check.due(29, "feastsKept(1)", x.feastsKept(1), 1);
        Check.due(27, "passDays(1)", x.passDays(1), 0);
        Check.due(29, "feastsKept(1)", x.feastsKept(1), 2);
        Check.due(31, "copiesMade()", x.copiesMade(), 0);
    }

    private static void movedFeastsAreCounted() {
        TwoTownAlmanac x = new TwoTownAlmanac();
        x.addFeast(0, 12, 31);
        x.barWeekday(0, 1);
        x.setShift(9);
        x.addFeast(1, 2, 11);
        // both on day 374: 9 days behind 365, and 336 + 38
        Check.due(27, "passDays(374)", x.passDays(374), 0);
        Check.due(29, "feastsKept(0)", x.feastsKept(0), 0);
        Check.due(29, "feastsKept(1)", x.feastsKept(1), 1);
        Check.due(27, "passDays(1)", x.passDays(1), 1);
        Check.due(29, "feastsKept(0)", x.feastsKept(0), 1);
        Check.due(29, "feastsKept(1)", x.feastsKept(1), 2);
        Check.due(30, "quarrelCount()", x.quarrelCount(), 1);
    }

    private static void countsStay() {
        TwoTownAlmanac x = new TwoTownAlmanac();
        x.addFeast(0, 1, 1);
        x.addFeast(1, 1, 1);
        x.passDays(1);
        x.barWeekday(0, 0);
        x.addGap(1, 0, 5);
        x.setCopiesPerDay(5);
        Check.due(29, "feastsKept(0)", x.feastsKept(0), 1);
        Check.due(29, "feastsKept(1)", x.feastsKept(1), 1);
        Check.due(30, "quarrelCount()", x.quarrelCount(), 1);
        Check.due(31, "copiesMade()", x.copiesMade(), 0);
        // moved to day 1, the feast is kept in this year once more
        x.passDays(1);
        Check.due(29, "feastsKept(0)", x.feastsKept(0), 2);
    }

    private static void todayHasAnEnd() {
        TwoTownAlmanac x = onDay(9998);
        Check.due(27, "passDays(1)", x.passDays(1), 0);
        Check.due(28, "today()", x.today(), 9999);
        Check.due(31, "copiesMade()", x.copiesMade(), 2 * 9999);
        Check.refused(27, "passDays(1) on day 9999", STATE, () -> onDay(9999), y -> y.passDays(1));
        Check.refused(27, "passDays(2) on day 9998", STATE, () -> onDay(9998), y -> y.passDays(2));
        Check.refused(27, "passDays(400) on day 9600", STATE, () -> onDay(9600), y -> y.passDays(400));
        Check.refused(27, "passDays(0) on day 9999", ARGUMENT, () -> onDay(9999), y -> y.passDays(0));
        Check.refused(27, "passDays(401) on day 9999", ARGUMENT, () -> onDay(9999), y -> y.passDays(401));
        Check.due(27, "passDays(399) on day 9600", onDay(9600).passDays(399), 0);
    }

    private static void wrongInputs() {
        Supplier<TwoTownAlmanac> made = () -> onDay(5);
        for (int number : new int[] {0, -1, 10, Integer.MIN_VALUE, Integer.MAX_VALUE}) {
            Check.refused(23, "setShift(" + number + ")", ARGUMENT, made, x -> x.setShift(number));
        }
        for (int number : new int[] {-1, 10, Integer.MIN_VALUE, Integer.MAX_VALUE}) {
            Check.refused(25, "setCopiesPerDay(" + number + ")", ARGUMENT, made, x -> x.setCopiesPerDay(number));
        }
        for (int number : new int[] {0, -1, 401, Integer.MIN_VALUE, Integer.MAX_VALUE}) {
            Check.refused(27, "passDays(" + number + ")", ARGUMENT, made, x -> x.passDays(number));
        }
        for (int town : new int[] {-1, 2, Integer.MIN_VALUE, Integer.MAX_VALUE}) {
            Check.refused(29, "feastsKept(" + town + ")", INDEX, made, x -> x.feastsKept(town));
        }
    }
}
