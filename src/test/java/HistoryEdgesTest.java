import java.util.ArrayList;
import java.util.List;
import java.util.function.Consumer;
import java.util.function.Supplier;

/** Promises 43 to 46, one method a promise: every boundary that the document names. */
public final class HistoryEdgesTest {
    private static final Class<IndexOutOfBoundsException> INDEX = IndexOutOfBoundsException.class;
    private static final Class<IllegalStateException> STATE = IllegalStateException.class;
    /** The promises that say "This is a change". */
    private static final int[] CHANGES = {2, 12, 13, 14, 23, 25, 27, 46};

    public static void main(String[] args) {
        Check.run(43, HistoryEdgesTest::promise43EachChangeIsRecorded);
        Check.run(43, HistoryEdgesTest::promise43ChangesThatAlterNothing);
        Check.run(43, HistoryEdgesTest::promise43OldestIsDropped);
        Check.run(43, HistoryEdgesTest::promise43ManyChanges);
        Check.run(43, HistoryEdgesTest::promises43And46FullRows);
        Check.run(43, HistoryEdgesTest::promise43Empty);
        Check.run(43, HistoryEdgesTest::promise43NoPartOfAState);
        Check.run(43, HistoryEdgesTest::promise43OtherCallsRecordNothing);
        Check.run(44, HistoryEdgesTest::promise44);
        Check.run(45, HistoryEdgesTest::promise45Parameter);
        Check.run(45, HistoryEdgesTest::promise45Replaces);
        Check.run(46, HistoryEdgesTest::promise46Parameter);
        Check.run(46, HistoryEdgesTest::promise46NothingSaved);
        Check.run(46, HistoryEdgesTest::promise46SlotKeepsIt);
        Check.run(46, HistoryEdgesTest::promise46OrderOfThrows);
        Check.covered(43, 46);
        Check.end("HistoryEdgesTest");
    }

    /** The busy almanac with only so many of its six recorded states left. */
    private static TwoTownAlmanac withRecorded(int count) {
        TwoTownAlmanac x = Make.busy();
        while (x.undoCount() > count) {
            x.undo();
        }
        return x;
    }

    /** Makes the change of which a promise tells. */
    private static void change(TwoTownAlmanac x, int promise) {
        switch (promise) {
            case 2 -> x.addGap(1, 9999, 40);
            case 12 -> x.addFeast(1, 12, 31);
            case 13 -> x.barWeekday(2, 0);
            case 14 -> x.allowAllWeekdays(1);
            case 23 -> x.setShift(9);
            case 25 -> x.setCopiesPerDay(9);
            case 27 -> x.passDays(400);
            default -> x.loadState(1);
        }
    }

    /** The present state and those that can be undone, the latest one first. */
    private static List<String> states(TwoTownAlmanac x) {
        List<String> states = new ArrayList<>(List.of(Check.stateOf(x)));
        int undos = x.undoCount();
        for (int i = 0; i < undos; i++) {
            x.undo();
            states.add(Check.stateOf(x));
        }
        return states;
    }

    /** With nothing recorded, one state before full, and full: the change is undone, the oldest states are kept. */
    private static void promise43EachChangeIsRecorded() {
        for (int recorded : new int[] {0, 1, 5, 6}) {
            for (int promise : CHANGES) {
                Check.run(promise, () -> eachChangeIsRecorded(promise, recorded));
            }
        }
    }

    private static void eachChangeIsRecorded(int promise, int recorded) {
        String told = "the change of promise " + promise + " with " + recorded + " recorded";
        List<String> before = states(withRecorded(recorded));
        TwoTownAlmanac x = withRecorded(recorded);
        change(x, promise);
        // what is present where nothing is recorded any more is what the slot holds
        boolean alters = promise != 46 || !before.get(0).equals(slotState(1));
        Check.due(promise, told + " alters the state", !Check.stateOf(x).equals(before.get(0)), alters);
        int due = Math.min(6, recorded + 1);
        int count = x.undoCount();
        Check.due(promise, "undoCount() after " + told, count, due);
        Check.due(44, "undoCount() after " + told, count, due);
        List<String> undone = states(x);
        undone.remove(0);
        List<String> kept = before.subList(0, due);
        Check.same(promise, "the states that undo brings back after " + told, undone, kept);
        Check.same(43, "the states that undo brings back after " + told, undone, kept);
    }

    private static String slotState(int slot) {
        TwoTownAlmanac x = Make.busy();
        x.loadState(slot);
        return Check.stateOf(x);
    }

    private static void promise43ChangesThatAlterNothing() {
        for (int recorded : new int[] {0, 5, 6}) {
            List<Consumer<TwoTownAlmanac>> same = new ArrayList<>();
            same.add(x -> x.setShift(x.shift()));
            same.add(x -> x.setCopiesPerDay(x.copiesPerDay()));
            same.add(x -> x.barWeekday(1, 5));
            same.add(x -> {
                x.saveState(0);
                x.loadState(0);
            });
            for (int i = 0; i < same.size(); i++) {
                List<String> before = states(withRecorded(recorded));
                TwoTownAlmanac x = withRecorded(recorded);
                same.get(i).accept(x);
                String told = "change " + i + ", which alters nothing, with " + recorded + " recorded";
                Check.due(43, "undoCount() after " + told, x.undoCount(), Math.min(6, recorded + 1));
                Check.same(43, "the state after " + told, Check.stateOf(x), before.get(0));
                Check.due(43, "undo() after " + told, x.undo(), Math.min(5, recorded));
                Check.same(43, "the state after undo of " + told, Check.stateOf(x), before.get(0));
            }
        }
    }

    private static void promise43OldestIsDropped() {
        for (int changes = 1; changes <= 14; changes++) {
            TwoTownAlmanac x = new TwoTownAlmanac();
            for (int i = 0; i < changes; i++) {
                x.passDays(i + 1);
            }
            int kept = Math.min(changes, 6);
            for (int left = kept - 1; left >= 0; left--) {
                Check.due(43, "undo() of " + changes + " changes", x.undo(), left);
                int passed = changes - kept + left;
                Check.due(43, "today() with " + left + " left", x.today(), passed * (passed + 1) / 2);
            }
            Check.due(44, "undoCount()", x.undoCount(), 0);
        }
        Supplier<TwoTownAlmanac> usedUp = () -> {
            TwoTownAlmanac x = Make.busy();
            x.passDays(1);
            while (x.undoCount() > 0) {
                x.undo();
            }
            return x;
        };
        Check.refused(43, "a seventh undo() of seven changes", STATE, usedUp, TwoTownAlmanac::undo);
    }

    /** A history that is filled, half undone and filled again, several times over. */
    private static void promise43ManyChanges() {
        TwoTownAlmanac x = new TwoTownAlmanac();
        List<Integer> todays = new ArrayList<>();
        for (int round = 1; round <= 12; round++) {
            for (int i = 0; i < round % 5 + 2; i++) {
                todays.add(x.today());
                x.passDays(round + i);
            }
            while (todays.size() > 6) {
                todays.remove(0);
            }
            Check.due(43, "undoCount() in round " + round, x.undoCount(), todays.size());
            for (int i = 0; i < round % 3 + 1 && !todays.isEmpty(); i++) {
                int want = todays.remove(todays.size() - 1);
                Check.due(43, "undo() in round " + round, x.undo(), todays.size());
                Check.due(43, "today() in round " + round, x.today(), want);
            }
        }
    }

    /** Three gaps of each town and ten feasts, with other numbers for another variant. */
    private static void fill(TwoTownAlmanac x, int variant) {
        for (int gap = 0; gap < 3; gap++) {
            x.addGap(0, 20 + 100 * gap + variant, 5 + gap + variant);
            x.addGap(1, 30 + 100 * gap + variant, 9 + gap + variant);
        }
        for (int feast = 0; feast < 10; feast++) {
            x.addFeast((feast + variant) % 2, 1 + feast + variant, 3 + feast + variant);
        }
        for (int feast = variant; feast < 10; feast += 3) {
            x.barWeekday(feast, (feast + variant) % 7);
        }
    }

    /** All that the rows of gaps and feasts hold is saved, loaded, recorded and undone, down to the last one. */
    private static void promises43And46FullRows() {
        TwoTownAlmanac x = new TwoTownAlmanac();
        String empty = Check.stateOf(x);
        x.saveState(0);
        fill(x, 0);
        String first = Check.stateOf(x);
        x.saveState(1);
        x.loadState(0);
        Check.same(46, "the empty rows", Check.stateOf(x), empty);
        fill(x, 1);
        String second = Check.stateOf(x);
        x.saveState(0);
        x.loadState(1);
        Check.same(46, "the full rows of slot 1", Check.stateOf(x), first);
        x.undo();
        Check.same(43, "the full rows before loadState(1)", Check.stateOf(x), second);
        x.loadState(1);
        x.loadState(0);
        Check.same(46, "the full rows of slot 0", Check.stateOf(x), second);
        x.undo();
        Check.same(43, "the full rows before loadState(0)", Check.stateOf(x), first);
    }

    private static void promise43Empty() {
        Check.refused(43, "undo() of a new object", STATE, TwoTownAlmanac::new, TwoTownAlmanac::undo);
        Check.refused(43, "undo() of a used object", STATE, () -> withRecorded(0), TwoTownAlmanac::undo);
        TwoTownAlmanac x = withRecorded(1);
        Check.due(43, "undo() of the only change", x.undo(), 0);
        x.setShift(9);
        Check.due(43, "undoCount() after a new change", x.undoCount(), 1);
        Check.due(43, "undo() of it", x.undo(), 0);
        // what is undone is not a change itself: undo does not bring it back
        TwoTownAlmanac back = new TwoTownAlmanac();
        back.setShift(2);
        back.setShift(3);
        back.undo();
        back.undo();
        Check.due(43, "shift() after two undos", back.shift(), 1);
    }

    private static void promise43NoPartOfAState() {
        TwoTownAlmanac x = Make.busy();
        x.saveState(0);
        x.setShift(9);
        x.saveState(1);
        x.clearText();
        Make.append(x, "A2.2.2");
        x.undo();
        Check.same(43, "the text after undo()", Check.textOf(x), "A2.2.2");
        Check.due(43, "undoCount() after undo()", x.undoCount(), 5);
        x.loadState(1);
        Check.due(43, "shift() of slot 1 after undo()", x.shift(), 9);
        x.loadState(0);
        Check.due(43, "shift() of slot 0 after undo()", x.shift(), 4);
        Check.same(46, "the text after loadState", Check.textOf(x), "A2.2.2");
        // of a slot filled after the change that is undone
        TwoTownAlmanac filled = new TwoTownAlmanac();
        filled.setShift(5);
        filled.saveState(1);
        filled.undo();
        Check.due(46, "loadState(1)", filled.loadState(1), 0);
        Check.due(46, "shift()", filled.shift(), 5);
        Check.refused(43, "loadState(0), which undo() does not fill", STATE, () -> {
            TwoTownAlmanac y = new TwoTownAlmanac();
            y.setShift(5);
            y.undo();
            return y;
        }, y -> y.loadState(0));
    }

    private static void promise43OtherCallsRecordNothing() {
        List<Consumer<TwoTownAlmanac>> calls = new ArrayList<>();
        calls.add(x -> x.saveState(0));
        calls.add(x -> x.saveState(1));
        calls.add(x -> x.appendText('.'));
        calls.add(TwoTownAlmanac::clearText);
        calls.add(TwoTownAlmanac::textError);
        calls.add(x -> x.writeDate(1, 20000));
        calls.add(x -> x.nextDay(0));
        calls.add(x -> x.daysUntilMeeting(0, 1));
        calls.add(x -> x.quarrelsWithin(400));
        calls.add(x -> x.bestBarredWeekday(1));
        calls.add(x -> x.isKept(1, 20000));
        calls.add(x -> x.feastsOn(20000));
        calls.add(x -> x.isQuarrel(20000));
        calls.add(x -> x.dayKept(1, 60));
        calls.add(x -> x.dayOfDate(1, 60, 12, 31));
        for (int recorded : new int[] {0, 5, 6}) {
            List<String> before = states(withRecorded(recorded));
            for (int i = 0; i < calls.size(); i++) {
                TwoTownAlmanac x = withRecorded(recorded);
                calls.get(i).accept(x);
                Check.same(43, "the states after call " + i + " with " + recorded + " recorded", states(x), before);
            }
        }
    }

    private static void promise44() {
        TwoTownAlmanac x = new TwoTownAlmanac();
        for (int changes = 0; changes <= 8; changes++) {
            Check.due(44, "undoCount() after " + changes + " changes", x.undoCount(), Math.min(changes, 6));
            x.setCopiesPerDay(changes);
        }
        for (int left = 5; left >= 0; left--) {
            x.undo();
            Check.due(44, "undoCount()", x.undoCount(), left);
        }
    }

    private static void promise45Parameter() {
        new Edge(45, "saveState(?)", Make::busy, TwoTownAlmanac::saveState).least(0, 8).greatest(1, 8).outside(INDEX);
        new Edge(45, "saveState(?) of a new object", TwoTownAlmanac::new, TwoTownAlmanac::saveState)
                .least(0, 0).greatest(1, 0).outside(INDEX);
        new Edge(45, "saveState(?) on day 9999", () -> Make.passTo(Make.busy(), 9999), TwoTownAlmanac::saveState)
                .least(0, 9999).greatest(1, 9999).outside(INDEX);
    }

    private static void promise45Replaces() {
        for (int slot = 0; slot < 2; slot++) {
            TwoTownAlmanac x = Make.busy();
            String present = Check.stateOf(x);
            x.saveState(slot);
            x.passDays(5);
            x.loadState(1 - slot);
            Check.same(45, "the other slot", Check.stateOf(x), slotState(1 - slot));
            x.loadState(slot);
            Check.same(45, "slot " + slot + ", replaced", Check.stateOf(x), present);
        }
        // one slot filled does not fill the other
        for (int slot = 0; slot < 2; slot++) {
            int filled = slot;
            Check.refused(45, "loadState(" + (1 - slot) + ")", STATE, () -> {
                TwoTownAlmanac x = new TwoTownAlmanac();
                x.saveState(filled);
                return x;
            }, x -> x.loadState(1 - filled));
        }
    }

    private static void promise46Parameter() {
        new Edge(46, "loadState(?)", Make::busy, TwoTownAlmanac::loadState).least(0, 0).greatest(1, 3).outside(INDEX);
        TwoTownAlmanac x = Make.passTo(Make.busy(), 9999);
        x.saveState(1);
        Check.due(46, "loadState(0)", x.loadState(0), 0);
        Check.due(46, "loadState(1)", x.loadState(1), 9999);
        Check.due(46, "today()", x.today(), 9999);
    }

    private static void promise46NothingSaved() {
        for (int slot = 0; slot < 2; slot++) {
            int empty = slot;
            Check.refused(46, "loadState(" + slot + ") of a new object", STATE, TwoTownAlmanac::new,
                    x -> x.loadState(empty));
            Check.refused(46, "loadState(" + slot + ") after changes", STATE, () -> {
                TwoTownAlmanac x = Make.withGaps(0, 5, 5);
                for (int i = 0; i < 6; i++) {
                    x.passDays(1 + i);
                }
                Make.append(x, "A1");
                return x;
            }, x -> x.loadState(empty));
            // a new object that is saved is loaded as such
            TwoTownAlmanac x = new TwoTownAlmanac();
            String fresh = Check.stateOf(x);
            x.saveState(slot);
            x.passDays(400);
            Check.due(46, "loadState(" + slot + ")", x.loadState(slot), 0);
            Check.same(46, "the state of a new object", Check.stateOf(x), fresh);
        }
    }

    private static void promise46SlotKeepsIt() {
        for (int slot = 0; slot < 2; slot++) {
            String saved = slotState(slot);
            for (int promise : CHANGES) {
                String told = "slot " + slot + " after the change of promise " + promise;
                TwoTownAlmanac x = Make.busy();
                x.loadState(slot);
                change(x, promise);
                x.loadState(slot);
                Check.same(46, told, Check.stateOf(x), saved);
                x.undo();
                x.undo();
                x.undo();
                x.loadState(slot);
                Check.same(46, told + " and undo", Check.stateOf(x), saved);
            }
        }
    }

    private static void promise46OrderOfThrows() {
        for (int slot : new int[] {-1, 2, Integer.MIN_VALUE, Integer.MAX_VALUE}) {
            Check.refused(46, "loadState(" + slot + "), nothing saved", INDEX, TwoTownAlmanac::new,
                    x -> x.loadState(slot));
            Check.refused(45, "saveState(" + slot + "), nothing saved", INDEX, TwoTownAlmanac::new,
                    x -> x.saveState(slot));
        }
    }
}
