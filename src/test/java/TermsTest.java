import java.util.HashMap;
import java.util.Map;
import java.util.function.Supplier;

/**
 * What the document's Terms say for all calls, over the whole ranges: every day and every date of several
 * calendars, every feast in every year, days that pass one by one, and the 512th call of an object.
 */
public final class TermsTest {
    private static final int MOST_DAY = 20000;
    private static final int MOST_CALLS = 512;

    /** Gaps of town 0 and of town 1, each as days and lengths. */
    private static final int[][][] CALENDARS = {
        {{}, {}},
        {{0, 40, 1, 40, 2, 40}, {0, 40, 1, 40, 2, 40}},
        {{365, 1, 366, 1, 9999, 40}, {335, 1, 336, 1, 9999, 40}},
        {{360, 5, 700, 40, 9998, 1}, {320, 15, 600, 40, 9998, 1}},
        {{29, 1, 59, 31, 9997, 40}, {27, 28, 28, 28, 29, 28}},
        {{9997, 40, 9998, 40, 9999, 40}, {9997, 40, 9998, 40, 9999, 40}},
    };

    public static void main(String[] args) {
        for (int[][] gaps : CALENDARS) {
            daysOfACalendar(gaps);
            datesOfACalendar(gaps);
            feastsOfACalendar(gaps);
        }
        daysPassOneByOne();
        lastOfAllCalls();
        noSuchDayWeekdayOrIndex();
        Check.end("TermsTest");
    }

    private static TwoTownAlmanac real(int[][] gaps) {
        TwoTownAlmanac x = new TwoTownAlmanac();
        for (int town = 0; town < 2; town++) {
            for (int i = 0; i < gaps[town].length; i += 2) {
                x.addGap(town, gaps[town][i], gaps[town][i + 1]);
            }
        }
        return x;
    }

    private static PlainModel model(int[][] gaps) {
        PlainModel model = new PlainModel();
        for (int town = 0; town < 2; town++) {
            for (int i = 0; i < gaps[town].length; i += 2) {
                model.addGap(town, gaps[town][i], gaps[town][i + 1]);
            }
        }
        return model;
    }

    private static void daysOfACalendar(int[][] gaps) {
        PlainModel model = model(gaps);
        TwoTownAlmanac x = real(gaps);
        for (int day = 0; day <= MOST_DAY; day++) {
            // seven calls a day, and six to make the almanac
            if (day % 70 == 0) {
                x = real(gaps);
            }
            for (int town = 0; town < 2; town++) {
                Check.date(x, town, day, model.dayOfMonth(town, day), model.monthOf(town, day),
                        model.yearOf(town, day));
            }
            Check.due(10, "weekday(" + day + ")", x.weekday(day), day % 7);
        }
    }

    private static int number(int year, int month, int dayOfMonth) {
        return (year * 100 + month) * 100 + dayOfMonth;
    }

    private static void datesOfACalendar(int[][] gaps) {
        PlainModel model = model(gaps);
        for (int town = 0; town < 2; town++) {
            Map<Integer, Integer> days = new HashMap<>();
            for (int day = 0; day <= 60 * 366; day++) {
                days.put(number(model.yearOf(town, day), model.monthOf(town, day), model.dayOfMonth(town, day)), day);
            }
            for (int year = 1; year <= 60; year++) {
                datesOfAYear(real(gaps), town, year, days);
            }
        }
    }

    private static void datesOfAYear(TwoTownAlmanac x, int town, int year, Map<Integer, Integer> days) {
        for (int month = 1; month <= 12; month++) {
            for (int dayOfMonth = 1; dayOfMonth <= 31; dayOfMonth++) {
                int want = days.getOrDefault(number(year, month, dayOfMonth), -1);
                Check.due(11, "dayOfDate(" + town + ", " + year + ", " + month + ", " + dayOfMonth + ")",
                        x.dayOfDate(town, year, month, dayOfMonth), want);
            }
        }
    }

    private static void feastsOfACalendar(int[][] gaps) {
        for (int town = 0; town < 2; town++) {
            for (int month = 1; month <= 12; month++) {
                PlainModel model = model(gaps);
                for (int dayOfMonth = 1; dayOfMonth <= 31; dayOfMonth++) {
                    feastOfACalendar(real(gaps), model, new int[] {town, month, dayOfMonth});
                }
            }
        }
    }

    /** The weekday and the shift change from feast to feast, so that each comes together with each. */
    private static void feastOfACalendar(TwoTownAlmanac x, PlainModel model, int[] feast) {
        int weekday = (feast[1] + feast[2]) % 7;
        int shift = 1 + (feast[1] * 3 + feast[2]) % 9;
        x.addFeast(feast[0], feast[1], feast[2]);
        x.barWeekday(0, weekday);
        x.setShift(shift);
        model.addFeast(feast[0], feast[1], feast[2]);
        model.barWeekday(0, weekday);
        model.setShift(shift);
        for (int year = 1; year <= 60; year++) {
            String of = " of " + feast[0] + ", " + feast[1] + ", " + feast[2] + " in year " + year;
            int kept = model.dayKept(0, year);
            Check.due(18, "dayDue" + of, x.dayDue(0, year), model.dayDue(0, year));
            Check.due(19, "dayKept" + of, x.dayKept(0, year), kept);
            if (kept >= 0 && kept <= MOST_DAY) {
                Check.due(20, "isKept" + of + " on day " + kept, x.isKept(0, kept), true);
                Check.due(21, "feastsOn" + of + " on day " + kept, x.feastsOn(kept), 1);
                Check.due(20, "isKept" + of + " on the day before", kept > 0 && x.isKept(0, kept - 1), false);
            }
        }
        for (int i = 0; i < 3; i++) {
            model.undo();
        }
    }

    /** 800 days with many feasts, in steps of 1, of 7 and of 400: the counts are the same. */
    private static void daysPassOneByOne() {
        Supplier<TwoTownAlmanac> made = () -> {
            TwoTownAlmanac x = Make.busy(3, 3, 10);
            for (int feast = 0; feast < 10; feast++) {
                x.barWeekday(feast, (feast * 3) % 7);
            }
            return x;
        };
        TwoTownAlmanac large = made.get();
        int quarrels = large.passDays(400) + large.passDays(400);
        for (int step : new int[] {2, 4, 5, 8, 200, 399}) {
            TwoTownAlmanac x = made.get();
            int counted = 0;
            int end = x.today() + 800;
            for (int today = x.today(); today < end; today += step) {
                counted += x.passDays(Math.min(step, end - today));
            }
            Check.due(27, "quarrels in steps of " + step, counted, quarrels);
            Check.same(27, "the state after steps of " + step, Check.stateOf(x), Check.stateOf(large));
        }
    }

    /** The 512th call is answered like all others, whether the calls before it were changes or not. */
    private static void lastOfAllCalls() {
        TwoTownAlmanac changes = new TwoTownAlmanac();
        for (int call = 1; call < MOST_CALLS; call++) {
            changes.passDays(1);
        }
        Check.due(27, "passDays(400) as the 512th call", changes.passDays(400), 0);
        TwoTownAlmanac looks = new TwoTownAlmanac();
        looks.passDays(400);
        for (int call = 2; call < MOST_CALLS; call++) {
            looks.feastsOn(call);
        }
        Check.due(28, "today() as the 512th call", looks.today(), 400);
        TwoTownAlmanac texts = new TwoTownAlmanac();
        for (int call = 1; call < MOST_CALLS - 1; call++) {
            texts.writeDate(call % 2, call);
        }
        texts.writeDate(1, 20000);
        Check.due(41, "dayOfText() as the 512th call", texts.dayOfText(), 20000);
    }

    private static void noSuchDayWeekdayOrIndex() {
        TwoTownAlmanac x = new TwoTownAlmanac();
        x.addFeast(1, 12, 31);
        x.addFeast(0, 1, 1);
        int none = TwoTownAlmanac.NONE;
        Check.due(1, "NONE", none, -1);
        Check.due(11, "dayOfDate(0, 1, 1, 31)", x.dayOfDate(0, 1, 1, 31), none);
        Check.due(17, "barredWeekday(0)", x.barredWeekday(0), none);
        Check.due(18, "dayDue(0, 1)", x.dayDue(0, 1), none);
        Check.due(19, "dayKept(0, 1)", x.dayKept(0, 1), none);
        Check.due(32, "nextDay(0)", x.nextDay(0), none);
        Check.due(33, "daysUntilMeeting(0, 1)", x.daysUntilMeeting(0, 1), none);
        Check.due(13, "barWeekday(0, 0)", x.barWeekday(0, 0), none);
        Make.append(x, "A31.1.1");
        Check.due(39, "textError()", x.textError(), none);
        Check.due(41, "dayOfText()", x.dayOfText(), none);
    }
}
