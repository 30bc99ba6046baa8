import java.util.Objects;
import java.util.function.Consumer;
import java.util.function.Supplier;

/** What the tests share: checks that count what is wrong, and views of a whole almanac. */
final class Check {
    private static final int MOST_PRINTED = 40;
    private static int checked = 0;
    private static int wrong = 0;

    private Check() {
    }

    static void due(int promise, String call, long got, long want) {
        same(promise, call, got, want);
    }

    static void due(int promise, String call, boolean got, boolean want) {
        same(promise, call, got, want);
    }

    static void same(int promise, String call, Object got, Object want) {
        checked++;
        if (!Objects.equals(got, want)) {
            wrong++;
            if (wrong <= MOST_PRINTED) {
                System.out.println("promise " + promise + ": " + call + " answered " + got + ", due is " + want);
            }
        }
    }

    /** The call must throw just this class, and an almanac with the call must be like one without it. */
    static void refused(int promise, String call, Class<? extends RuntimeException> due,
            Supplier<TwoTownAlmanac> maker, Consumer<TwoTownAlmanac> act) {
        TwoTownAlmanac touched = maker.get();
        Object got = "nothing";
        try {
            act.accept(touched);
        } catch (RuntimeException e) {
            got = e.getClass();
        }
        same(promise, call + " throws", got, due);
        same(promise, "all that is left after " + call, everything(touched), everything(maker.get()));
    }

    /** The answers that show the present state; the text is no part of it. */
    static String stateOf(TwoTownAlmanac x) {
        StringBuilder seen = new StringBuilder();
        for (int town = 0; town < 2; town++) {
            seen.append("town ").append(town).append(" kept ").append(x.feastsKept(town)).append(" gaps");
            for (int gap = 0; gap < x.gapCount(town); gap++) {
                seen.append(' ').append(x.gapDay(town, gap)).append('+').append(x.gapLength(town, gap));
            }
        }
        for (int feast = 0; feast < x.feastCount(); feast++) {
            seen.append(" feast ").append(x.feastTown(feast)).append(' ').append(x.barredWeekday(feast));
            seen.append(' ').append(x.dayDue(feast, 2)).append(' ').append(x.dayKept(feast, 3));
        }
        seen.append(" shift ").append(x.shift()).append(" a day ").append(x.copiesPerDay());
        seen.append(" today ").append(x.today()).append(" quarrels ").append(x.quarrelCount());
        return seen.append(" copies ").append(x.copiesMade()).append('\n').toString();
    }

    static String textOf(TwoTownAlmanac x) {
        StringBuilder seen = new StringBuilder();
        for (int i = 0; i < x.textLength(); i++) {
            seen.append((char) x.textCharacter(i));
        }
        return seen.toString();
    }

    /** State, text, history and slots; the almanac is used up by it. */
    private static String everything(TwoTownAlmanac x) {
        StringBuilder seen = new StringBuilder(textOf(x)).append(' ').append(x.undoCount()).append('\n');
        seen.append(stateOf(x));
        while (x.undoCount() > 0) {
            x.undo();
            seen.append(stateOf(x));
        }
        for (int slot = 0; slot < 2; slot++) {
            try {
                x.loadState(slot);
                seen.append(stateOf(x));
            } catch (IllegalStateException e) {
                seen.append("slot ").append(slot).append(" is empty\n");
            }
        }
        return seen.toString();
    }

    /** Ends the test: exit code 1 if something was wrong, or if nothing was checked. */
    static void end(String test) {
        System.out.println(test + ": " + checked + " checks, " + wrong + " wrong");
        System.exit(wrong == 0 && checked > 0 ? 0 : 1);
    }
}
