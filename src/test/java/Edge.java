import java.util.function.Supplier;

/** One parameter of one call: the least and the greatest value that it takes, and the values outside. */
final class Edge {
    /** The call with a value of the parameter; a boolean answer counts 1 or 0. */
    interface Call {
        long with(TwoTownAlmanac x, int value);
    }

    private final int promise;
    private final String told;
    private final Supplier<TwoTownAlmanac> made;
    private final Call call;
    private int least = 0;
    // an empty row takes nothing: the greatest index lies below the least
    private int greatest = -1;

    /** The call is told with a ? in the place of the parameter. */
    Edge(int promise, String told, Supplier<TwoTownAlmanac> made, Call call) {
        this.promise = promise;
        this.told = told;
        this.made = made;
        this.call = call;
    }

    Edge least(int value, long answer) {
        least = value;
        answers(value, answer);
        return this;
    }

    Edge greatest(int value, long answer) {
        greatest = value;
        answers(value, answer);
        return this;
    }

    private void answers(int value, long answer) {
        Object got;
        try {
            got = call.with(made.get(), value);
        } catch (RuntimeException e) {
            got = e;
        }
        Check.same(promise, toldWith(value), got, answer);
    }

    private String toldWith(int value) {
        return told.replace("?", Integer.toString(value));
    }

    /** The next value below the least, the next one above the greatest, the least and the greatest int. */
    void outside(Class<? extends RuntimeException> due) {
        for (int value : new int[] {least - 1, greatest + 1, Integer.MIN_VALUE, Integer.MAX_VALUE}) {
            Check.refused(promise, toldWith(value), due, made, x -> call.with(x, value));
        }
    }
}
