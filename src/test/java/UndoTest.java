import java.util.ArrayList;
import java.util.List;
import java.util.function.Consumer;

/** Promises 43 to 46: undo and saved states, by examples; HistoryEdgesTest has the boundaries. */
public final class UndoTest {
    public static void main(String[] args) {
        everyChangeIsUndone();
        changesThatAlterNothingAreRecorded();
        otherCallsAreNotRecorded();
        sixStatesAreKept();
        statesAreSaved();
        gapsComeBack();
        slotsAreNoPartOfHistory();
        refusedChangesAreNotRecorded();
        Check.end("UndoTest");
    }

    /** An almanac in which each call described as a change can be made. */
    private static TwoTownAlmanac made() {
        TwoTownAlmanac x = new TwoTownAlmanac();
        x.addFeast(0, 1, 3);
        x.addFeast(1, 1, 3);
        x.barWeekday(1, 5);
        x.addGap(0, 30, 4);
        x.saveState(1);
        x.setShift(4);
        while (x.undoCount() > 4) {
            x.undo();
        }
        return x;
    }

    private static List<Consumer<TwoTownAlmanac>> changes() {
        List<Consumer<TwoTownAlmanac>> changes = new ArrayList<>();
        changes.add(x -> x.addGap(0, 50, 6));
        changes.add(x -> x.addGap(1, 50, 6));
        changes.add(x -> x.addFeast(1, 5, 5));
        changes.add(x -> x.barWeekday(0, 2));
        changes.add(x -> x.barWeekday(1, 2));
        changes.add(x -> x.allowAllWeekdays(1));
        changes.add(x -> x.setShift(9));
        changes.add(x -> x.setCopiesPerDay(0));
        changes.add(x -> x.passDays(300));
        changes.add(x -> x.loadState(1));
        return changes;
    }

    private static void everyChangeIsUndone() {
        String want = Check.stateOf(made());
        for (int i = 0; i < changes().size(); i++) {
            TwoTownAlmanac x = made();
            x.passDays(40);
            String before = Check.stateOf(x);
            int undos = x.undoCount();
            changes().get(i).accept(x);
            Check.due(44, "undoCount() after change " + i, x.undoCount(), undos + 1);
            Check.due(43, "change " + i + " alters something", !Check.stateOf(x).equals(before), true);
            Check.due(43, "undo() of change " + i, x.undo(), undos);
            Check.same(43, "the state after undo of change " + i, Check.stateOf(x), before);
            Check.due(44, "undoCount()", x.undoCount(), undos);
            x.undo();
            Check.same(43, "the state after two undos", Check.stateOf(x), want);
        }
    }

    private static void changesThatAlterNothingAreRecorded() {
        TwoTownAlmanac x = new TwoTownAlmanac();
        x.addFeast(0, 1, 1);
        x.barWeekday(0, 3);
        x.saveState(0);
        String before = Check.stateOf(x);
        x.setShift(1);
        Check.due(44, "undoCount() after setShift(1)", x.undoCount(), 3);
        x.setCopiesPerDay(2);
        Check.due(44, "undoCount() after setCopiesPerDay(2)", x.undoCount(), 4);
        x.barWeekday(0, 3);
        Check.due(44, "undoCount() after barWeekday(0, 3)", x.undoCount(), 5);
        x.loadState(0);
        Check.due(44, "undoCount() after loadState(0)", x.undoCount(), 6);
        for (int left = 5; left >= 2; left--) {
            Check.due(43, "undo()", x.undo(), left);
            Check.same(43, "the state", Check.stateOf(x), before);
        }
        Check.due(43, "undo()", x.undo(), 1);
        Check.due(17, "barredWeekday(0)", x.barredWeekday(0), -1);
    }

    private static void otherCallsAreNotRecorded() {
        TwoTownAlmanac x = made();
        int undos = x.undoCount();
        x.saveState(0);
        x.appendText(65);
        x.clearText();
        x.writeDate(0, 5);
        x.dayOfText();
        x.bestBarredWeekday(0);
        x.feastsOn(2);
        Check.due(44, "undoCount()", x.undoCount(), undos);
    }

    private static void sixStatesAreKept() {
        TwoTownAlmanac x = new TwoTownAlmanac();
        for (int days = 1; days <= 9; days++) {
            x.passDays(days);
            Check.due(44, "undoCount()", x.undoCount(), Math.min(days, 6));
        }
        int[] todays = {36, 28, 21, 15, 10, 6};
        for (int i = 0; i < 6; i++) {
            Check.due(43, "undo()", x.undo(), 5 - i);
            Check.due(43, "today()", x.today(), todays[i]);
        }
        Check.due(44, "undoCount()", x.undoCount(), 0);
        for (int i = 0; i < 3; i++) {
            x.passDays(10);
        }
        x.undo();
        for (int i = 0; i < 5; i++) {
            x.passDays(1);
        }
        Check.due(44, "undoCount()", x.undoCount(), 6);
        int[] again = {30, 29, 28, 27, 26, 16};
        for (int want : again) {
            x.undo();
            Check.due(43, "today()", x.today(), want);
        }
        Check.due(44, "undoCount()", x.undoCount(), 0);
    }

    private static void statesAreSaved() {
        TwoTownAlmanac x = made();
        Check.due(45, "saveState(0)", x.saveState(0), 0);
        String first = Check.stateOf(x);
        for (Consumer<TwoTownAlmanac> change : changes().subList(0, 9)) {
            change.accept(x);
        }
        String second = Check.stateOf(x);
        Check.due(45, "saveState(1)", x.saveState(1), 300);
        Check.due(46, "loadState(0)", x.loadState(0), 0);
        Check.same(46, "the state of slot 0", Check.stateOf(x), first);
        x.setShift(6);
        x.addFeast(0, 3, 3);
        Check.due(46, "loadState(1)", x.loadState(1), 300);
        Check.same(46, "the state of slot 1", Check.stateOf(x), second);
        x.passDays(7);
        Check.due(46, "loadState(0)", x.loadState(0), 0);
        Check.same(46, "the state of slot 0, which keeps it", Check.stateOf(x), first);
        x.loadState(1);
        Check.due(45, "saveState(0) over another", x.saveState(0), 300);
        x.loadState(0);
        Check.same(45, "the state that replaced", Check.stateOf(x), second);
    }

    private static void gapsComeBack() {
        TwoTownAlmanac x = new TwoTownAlmanac();
        x.addGap(0, 10, 1);
        x.addGap(0, 20, 2);
        x.addGap(0, 30, 3);
        String three = Check.stateOf(x);
        x.saveState(0);
        for (int i = 0; i < 3; i++) {
            x.undo();
        }
        x.addGap(0, 15, 4);
        x.addGap(0, 25, 5);
        x.addGap(0, 35, 6);
        String others = Check.stateOf(x);
        x.loadState(0);
        Check.same(46, "the gaps of slot 0", Check.stateOf(x), three);
        Check.due(46, "dayOfMonth(0, 21)", x.dayOfMonth(0, 21), 25);
        x.undo();
        Check.same(43, "the gaps before loadState", Check.stateOf(x), others);
        Check.due(43, "dayOfMonth(0, 21)", x.dayOfMonth(0, 21), 26);
    }

    private static void slotsAreNoPartOfHistory() {
        TwoTownAlmanac x = new TwoTownAlmanac();
        x.passDays(5);
        x.saveState(0);
        x.undo();
        Check.due(46, "loadState(0) after undo", x.loadState(0), 5);
        x.passDays(1);
        x.saveState(0);
        x.undo();
        Check.due(43, "today()", x.today(), 5);
        Check.due(46, "loadState(0) after undo", x.loadState(0), 6);
        Check.due(43, "undo() of loadState", x.undo(), 1);
        Check.due(43, "today()", x.today(), 5);
        // loading does not bring back the history of the time of saving
        x.passDays(1);
        x.passDays(1);
        x.loadState(0);
        Check.due(44, "undoCount()", x.undoCount(), 4);
    }

    private static void refusedChangesAreNotRecorded() {
        TwoTownAlmanac x = made();
        String before = Check.stateOf(x);
        int undos = x.undoCount();
        List<Consumer<TwoTownAlmanac>> wrong = new ArrayList<>();
        wrong.add(y -> y.addGap(0, 30, 1));
        wrong.add(y -> y.addFeast(0, 13, 1));
        wrong.add(y -> y.barWeekday(0, 7));
        wrong.add(y -> y.allowAllWeekdays(0));
        wrong.add(y -> y.setShift(10));
        wrong.add(y -> y.setCopiesPerDay(10));
        wrong.add(y -> y.passDays(401));
        wrong.add(y -> y.loadState(0));
        for (Consumer<TwoTownAlmanac> call : wrong) {
            try {
                call.accept(x);
                Check.due(43, "a wrong change throws", false, true);
            } catch (IllegalArgumentException | IllegalStateException e) {
                Check.due(44, "undoCount() after " + e, x.undoCount(), undos);
            }
        }
        Check.same(43, "the state after wrong changes", Check.stateOf(x), before);
    }
}
