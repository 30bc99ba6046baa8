/** Promises 23 to 31: the shift, the monks, passing days, by examples; PassingEdgesTest has the boundaries. */
public final class PassingTest {
    public static void main(String[] args) {
        shiftIsSet();
        copiesAreSet();
        daysPass();
        todayIsTheFirstToPass();
        movedFeastsAreCounted();
        countsStay();
        Check.end("PassingTest");
    }

    private static void shiftIsSet() {
        TwoTownAlmanac x = new TwoTownAlmanac();
        Check.due(23, "setShift(9)", x.setShift(9), 1);
        Check.due(24, "shift()", x.shift(), 9);
        Check.due(23, "setShift(7)", x.setShift(7), 9);
        Check.due(24, "shift()", x.shift(), 7);
        Check.due(23, "setShift(1)", x.setShift(1), 7);
        Check.due(24, "shift()", x.shift(), 1);
        Check.due(23, "undoCount()", x.undoCount(), 3);
    }

    private static void copiesAreSet() {
        TwoTownAlmanac x = new TwoTownAlmanac();
        Check.due(25, "setCopiesPerDay(0)", x.setCopiesPerDay(0), 2);
        Check.due(26, "copiesPerDay()", x.copiesPerDay(), 0);
        x.passDays(10);
        Check.due(31, "copiesMade()", x.copiesMade(), 0);
        Check.due(25, "setCopiesPerDay(9)", x.setCopiesPerDay(9), 0);
        Check.due(26, "copiesPerDay()", x.copiesPerDay(), 9);
        x.passDays(10);
        Check.due(31, "copiesMade()", x.copiesMade(), 90);
    }

    private static void daysPass() {
        TwoTownAlmanac x = new TwoTownAlmanac();
        x.addFeast(0, 1, 4);
        x.addFeast(0, 1, 4);
        x.addFeast(1, 1, 4);
        x.addFeast(1, 1, 6);
        Check.due(27, "passDays(3)", x.passDays(3), 0);
        Check.due(28, "today()", x.today(), 3);
        Check.due(31, "copiesMade()", x.copiesMade(), 6);
        Check.due(27, "passDays(1)", x.passDays(1), 1);
        Check.due(28, "today()", x.today(), 4);
        Check.due(29, "feastsKept(0)", x.feastsKept(0), 2);
        Check.due(29, "feastsKept(1)", x.feastsKept(1), 1);
        Check.due(30, "quarrelCount()", x.quarrelCount(), 1);
        Check.due(31, "copiesMade()", x.copiesMade(), 6);
        Check.due(27, "passDays(400)", x.passDays(400), 0);
        Check.due(28, "today()", x.today(), 404);
        Check.due(29, "feastsKept(0)", x.feastsKept(0), 4);
        Check.due(29, "feastsKept(1)", x.feastsKept(1), 4);
        Check.due(30, "quarrelCount()", x.quarrelCount(), 1);
        // feasts are on days 5, 339, 341 and 369
        Check.due(31, "copiesMade()", x.copiesMade(), 6 + 2 * (400 - 4));
    }

    private static void todayIsTheFirstToPass() {
        TwoTownAlmanac x = new TwoTownAlmanac();
        x.addFeast(0, 1, 1);
        x.addFeast(1, 1, 1);
        x.addFeast(1, 1, 2);
        Check.due(27, "passDays(1)", x.passDays(1), 1);
        Check.due(29, "feastsKept(1)", x.feastsKept(1), 1);
        Check.due(27, "passDays(1)", x.passDays(1), 0);
        Check.due(29, "feastsKept(1)", x.feastsKept(1), 2);
        Check.due(31, "copiesMade()", x.copiesMade(), 0);
    }

    private static void movedFeastsAreCounted() {
        TwoTownAlmanac x = new TwoTownAlmanac();
        x.addFeast(0, 12, 31);
        x.barWeekday(0, 1);
        x.setShift(9);
        x.addFeast(1, 2, 11);
        // both on day 374: 9 days behind 365, and 336 + 38
        Check.due(27, "passDays(374)", x.passDays(374), 0);
        Check.due(29, "feastsKept(0)", x.feastsKept(0), 0);
        Check.due(29, "feastsKept(1)", x.feastsKept(1), 1);
        Check.due(27, "passDays(1)", x.passDays(1), 1);
        Check.due(29, "feastsKept(0)", x.feastsKept(0), 1);
        Check.due(29, "feastsKept(1)", x.feastsKept(1), 2);
        Check.due(30, "quarrelCount()", x.quarrelCount(), 1);
    }

    private static void countsStay() {
        TwoTownAlmanac x = new TwoTownAlmanac();
        x.addFeast(0, 1, 1);
        x.addFeast(1, 1, 1);
        x.passDays(1);
        x.barWeekday(0, 0);
        x.addGap(1, 0, 5);
        x.setCopiesPerDay(5);
        Check.due(29, "feastsKept(0)", x.feastsKept(0), 1);
        Check.due(29, "feastsKept(1)", x.feastsKept(1), 1);
        Check.due(30, "quarrelCount()", x.quarrelCount(), 1);
        Check.due(31, "copiesMade()", x.copiesMade(), 0);
        // moved to day 1, the feast is kept in this year once more
        x.passDays(1);
        Check.due(29, "feastsKept(0)", x.feastsKept(0), 2);
    }
}
