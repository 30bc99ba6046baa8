import java.util.Objects;
import java.util.TreeMap;
import java.util.function.Consumer;
import java.util.function.Supplier;

/** What the tests share: checks that count what is wrong, and views of a whole almanac. */
final class Check {
    private static final int MOST_PRINTED_OF_A_PROMISE = 10;
    /** How many checks of each promise were wrong; 0 for a promise whose checks all held. */
    private static final TreeMap<Integer, Integer> WRONG_OF_PROMISE = new TreeMap<>();
    private static int checked = 0;
    private static int wrong = 0;

    private Check() {
    }

    static void due(int promise, String call, long got, long want) {
        same(promise, call, got, want);
    }

    static void due(int promise, String call, boolean got, boolean want) {
        same(promise, call, got, want);
    }

    static void same(int promise, String call, Object got, Object want) {
        checked++;
        boolean isWrong = !Objects.equals(got, want);
        int wrongOfPromise = WRONG_OF_PROMISE.merge(promise, isWrong ? 1 : 0, Integer::sum);
        if (isWrong) {
            wrong++;
            if (wrongOfPromise <= MOST_PRINTED_OF_A_PROMISE) {
                System.out.println("promise " + promise + ": " + call + " answered " + got + ", due is " + want);
            }
        }
    }

    /** The date that a town has on a day: promises 7, 8 and 9. */
    static void date(TwoTownAlmanac x, int town, int day, int dayOfMonth, int month, int year) {
        String of = "(" + town + ", " + day + ")";
        due(7, "dayOfMonth" + of, x.dayOfMonth(town, day), dayOfMonth);
        due(8, "monthOf" + of, x.monthOf(town, day), month);
        due(9, "yearOf" + of, x.yearOf(town, day), year);
    }

    /** Runs the checks of a promise; an exception that ends them is wrong too, and the other promises go on. */
    static void run(int promise, Runnable checks) {
        try {
            checks.run();
        } catch (RuntimeException e) {
            same(promise, "a call that must not throw, at " + testLine(e), e, "an answer");
        }
    }

    /** The line of a test that made the call, as far as the exception tells. */
    private static String testLine(RuntimeException thrown) {
        for (StackTraceElement place : thrown.getStackTrace()) {
            String type = place.getClassName();
            if (type.endsWith("Test")) {
                return place.getFileName() + ":" + place.getLineNumber();
            }
        }
        return "an unknown line";
    }

    /** The call must throw just this class, and an almanac with the call must be like one without it. */
    static void refused(int promise, String call, Class<? extends RuntimeException> due,
            Supplier<TwoTownAlmanac> maker, Consumer<TwoTownAlmanac> act) {
        same(promise, call + " throws", thrownBy(maker.get(), act), due);
        Supplier<TwoTownAlmanac> touched = () -> {
            TwoTownAlmanac x = maker.get();
            thrownBy(x, act);
            return x;
        };
        same(promise, "all that is left after " + call, everything(touched), everything(maker));
    }

    private static Object thrownBy(TwoTownAlmanac x, Consumer<TwoTownAlmanac> act) {
        try {
            act.accept(x);
            return "nothing";
        } catch (RuntimeException e) {
            return e.getClass();
        }
    }

    /** The answers that show the present state; the text is no part of it. */
    static String stateOf(TwoTownAlmanac x) {
        StringBuilder seen = new StringBuilder();
        for (int town = 0; town < 2; town++) {
            seen.append("town ").append(town).append(" kept ").append(x.feastsKept(town)).append(" gaps");
            int gaps = x.gapCount(town);
            for (int gap = 0; gap < gaps; gap++) {
                seen.append(' ').append(x.gapDay(town, gap)).append('+').append(x.gapLength(town, gap));
            }
        }
        int feasts = x.feastCount();
        for (int feast = 0; feast < feasts; feast++) {
            seen.append(" feast ").append(x.feastTown(feast)).append(' ').append(x.barredWeekday(feast));
            seen.append(' ').append(x.dayDue(feast, 2));
        }
        seen.append(" shift ").append(x.shift()).append(" a day ").append(x.copiesPerDay());
        seen.append(" today ").append(x.today()).append(" quarrels ").append(x.quarrelCount());
        return seen.append(" copies ").append(x.copiesMade()).append('\n').toString();
    }

    static String textOf(TwoTownAlmanac x) {
        StringBuilder seen = new StringBuilder();
        int length = x.textLength();
        for (int i = 0; i < length; i++) {
            seen.append((char) x.textCharacter(i));
        }
        return seen.toString();
    }

    /** State, text, history and slots, each seen in a new almanac: one object is good for 512 calls only. */
    private static String everything(Supplier<TwoTownAlmanac> made) {
        return stateOf(made.get()) + textOf(made.get()) + '\n' + historyOf(made.get()) + slotsOf(made.get());
    }

    /** The states that can be undone, the latest one first; the almanac is used up by it. */
    static String historyOf(TwoTownAlmanac x) {
        StringBuilder seen = new StringBuilder();
        int undos = x.undoCount();
        seen.append(undos).append(" undos\n");
        for (int i = 0; i < undos; i++) {
            x.undo();
            seen.append(stateOf(x));
        }
        return seen.toString();
    }

    private static String slotsOf(TwoTownAlmanac x) {
        StringBuilder seen = new StringBuilder();
        for (int slot = 0; slot < 2; slot++) {
            try {
                x.loadState(slot);
                seen.append(stateOf(x));
            } catch (IllegalStateException e) {
                seen.append("slot ").append(slot).append(" is empty\n");
            }
        }
        return seen.toString();
    }

    /** Each promise from the first to the last must have been checked. */
    static void covered(int first, int last) {
        for (int promise = first; promise <= last; promise++) {
            same(promise, "being checked", WRONG_OF_PROMISE.containsKey(promise), true);
        }
    }

    /** Ends the test: exit code 1 if something was wrong, or if nothing was checked. */
    static void end(String test) {
        System.out.println(test + ": " + checked + " checks, " + wrong + " wrong");
        System.exit(wrong == 0 && checked > 0 ? 0 : 1);
    }
}
