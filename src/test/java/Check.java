import java.util.Objects;
import java.util.TreeSet;
import java.util.function.Consumer;
import java.util.function.Supplier;

/** What the tests share: checks that count what is wrong, and views of a whole almanac. */
final class Check {
    private static final int MOST_PRINTED = 40;
    private static final TreeSet<Integer> PROMISES = new TreeSet<>();
    private static int checked = 0;
    private static int wrong = 0;

    private Check() {
    }

    static void due(int promise, String call, long got, long want) {
        same(promise, call, got, want);
    }

    static void due(int promise, String call, boolean got, boolean want) {
        same(promise, call, got, want);
    }

    static void same(int promise, String call, Object got, Object want) {
        checked++;
        PROMISES.add(promise);
        if (!Objects.equals(got, want)) {
            wrong++;
            if (wrong <= MOST_PRINTED) {
                System.out.println("promise " + promise + ": " + call + " answered " + got + ", due is " + want);
            }
        }
    }

    /** The call must throw just this class, and an almanac with the call must be like one without it. */
    static void refused(int promise, String call, Class<? extends RuntimeException> due,
            Supplier<TwoTownAlmanac> maker, Consumer<TwoTownAlmanac> act) {
        same(promise, call + " throws", thrownBy(maker.get(), act), due);
        Supplier<TwoTownAlmanac> touched = () -> {
            TwoTownAlmanac x = maker.get();
            thrownBy(x, act);
            return x;
        };
        same(promise, "all that is left after " + call, everything(touched), everything(maker));
    }

    private static Object thrownBy(TwoTownAlmanac x, Consumer<TwoTownAlmanac> act) {
        try {
            act.accept(x);
            return "nothing";
        } catch (RuntimeException e) {
            return e.getClass();
        }
    }

    /** The answers that show the present state; the text is no part of it. */
    static String stateOf(TwoTownAlmanac x) {
        StringBuilder seen = new StringBuilder();
        for (int town = 0; town < 2; town++) {
            seen.append("town ").append(town).append(" kept ").append(x.feastsKept(town)).append(" gaps");
            int gaps = x.gapCount(town);
            for (int gap = 0; gap < gaps; gap++) {
                seen.append(' ').append(x.gapDay(town, gap)).append('+').append(x.gapLength(town, gap));
            }
        }
        int feasts = x.feastCount();
        for (int feast = 0; feast < feasts; feast++) {
            seen.append(" feast ").append(x.feastTown(feast)).append(' ').append(x.barredWeekday(feast));
            seen.append(' ').append(x.dayDue(feast, 2));
        }
        seen.append(" shift ").append(x.shift()).append(" a day ").append(x.copiesPerDay());
        seen.append(" today ").append(x.today()).append(" quarrels ").append(x.quarrelCount());
        return seen.append(" copies ").append(x.copiesMade()).append('\n').toString();
    }

    static String textOf(TwoTownAlmanac x) {
        StringBuilder seen = new StringBuilder();
        int length = x.textLength();
        for (int i = 0; i < length; i++) {
            seen.append((char) x.textCharacter(i));
        }
        return seen.toString();
    }

    /** State, text, history and slots, each seen in a new almanac: one object is good for 512 calls only. */
    private static String everything(Supplier<TwoTownAlmanac> made) {
        return stateOf(made.get()) + textOf(made.get()) + '\n' + historyOf(made.get()) + slotsOf(made.get());
    }

    /** The states that can be undone, the latest one first; the almanac is used up by it. */
    static String historyOf(TwoTownAlmanac x) {
        StringBuilder seen = new StringBuilder();
        int undos = x.undoCount();
        seen.append(undos).append(" undos\n");
        for (int i = 0; i < undos; i++) {
            x.undo();
            seen.append(stateOf(x));
        }
        return seen.toString();
    }

    private static String slotsOf(TwoTownAlmanac x) {
        StringBuilder seen = new StringBuilder();
        for (int slot = 0; slot < 2; slot++) {
            try {
                x.loadState(slot);
                seen.append(stateOf(x));
            } catch (IllegalStateException e) {
                seen.append("slot ").append(slot).append(" is empty\n");
            }
        }
        return seen.toString();
    }

    /** Each promise from the first to the last must have been checked. */
    static void covered(int first, int last) {
        for (int promise = first; promise <= last; promise++) {
            same(promise, "being checked", PROMISES.contains(promise), true);
        }
    }

    /** Ends the test: exit code 1 if something was wrong, or if nothing was checked. */
    static void end(String test) {
        System.out.println(test + ": " + checked + " checks, " + wrong + " wrong");
        System.exit(wrong == 0 && checked > 0 ? 0 : 1);
    }
}
