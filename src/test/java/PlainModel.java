import java.util.ArrayList;
import java.util.Arrays;
import java.util.List;

/**
 * The document once more, reckoned day by day from tables instead of by formulas.
 * It takes right arguments only; ModelTest tells the wrong ones.
 */
final class PlainModel {
    private static final int LAST_DAY = 22500;

    /** What undo and the slots bring back. */
    private static final class Kept {
        final List<List<int[]>> gaps = List.of(new ArrayList<>(), new ArrayList<>());
        final List<int[]> feasts = new ArrayList<>();
        int shift = 1;
        int copiesPerDay = 2;
        int today = 0;
        int[] feastsKept = {0, 0};
        int quarrels = 0;
        int copies = 0;

        Kept copy() {
            Kept copy = new Kept();
            for (int town = 0; town < 2; town++) {
                copy.gaps.get(town).addAll(gaps.get(town));
            }
            for (int[] feast : feasts) {
                copy.feasts.add(feast.clone());
            }
            copy.shift = shift;
            copy.copiesPerDay = copiesPerDay;
            copy.today = today;
            copy.feastsKept = feastsKept.clone();
            copy.quarrels = quarrels;
            copy.copies = copies;
            return copy;
        }
    }

    private Kept now = new Kept();
    private final List<Kept> history = new ArrayList<>();
    private final Kept[] slots = new Kept[2];
    private final StringBuilder text = new StringBuilder();
    private final int[][][] dates = new int[2][][];
    private final int[][] yearStarts = new int[2][62];
    private final int[][] dueDays = new int[10][62];

    PlainModel() {
        forget();
    }

    private void forget() {
        dates[0] = null;
        dates[1] = null;
        forgetDueDays();
    }

    private void forgetDueDays() {
        for (int[] days : dueDays) {
            Arrays.fill(days, -2);
        }
    }

    private void change() {
        history.add(now.copy());
        if (history.size() > 6) {
            history.remove(0);
        }
    }

    // ---- calendars

    static int monthLength(int town, int month) {
        return town == 1 ? 28 : new int[] {30, 31, 30, 31, 30, 31, 30, 31, 30, 31, 30, 31}[month - 1];
    }

    private static void toNextDate(int town, int[] date) {
        date[2]++;
        if (date[2] > monthLength(town, date[1])) {
            date[2] = 1;
            date[1]++;
        }
        if (date[1] > 12) {
            date[1] = 1;
            date[0]++;
        }
    }

    /** Year, month and day of the month of each day, found by walking through the calendar. */
    private int[][] datesOf(int town) {
        if (dates[town] == null) {
            int[][] table = new int[LAST_DAY + 1][];
            int[] date = {1, 1, 1};
            Arrays.fill(yearStarts[town], LAST_DAY + 1);
            for (int day = 0; day <= LAST_DAY; day++) {
                table[day] = date.clone();
                if (date[0] < 62 && yearStarts[town][date[0]] > day) {
                    yearStarts[town][date[0]] = day;
                }
                walk(town, day, date);
            }
            dates[town] = table;
        }
        return dates[town];
    }

    private void walk(int town, int day, int[] date) {
        toNextDate(town, date);
        for (int[] gap : now.gaps.get(town)) {
            for (int i = 0; gap[0] == day && i < gap[1]; i++) {
                toNextDate(town, date);
            }
        }
    }

    int addGap(int town, int afterDay, int length) {
        change();
        now.gaps.get(town).add(new int[] {afterDay, length});
        forget();
        return now.gaps.get(town).size();
    }

    int gapCount(int town) {
        return now.gaps.get(town).size();
    }

    int gapDay(int town, int gap) {
        return now.gaps.get(town).get(gap)[0];
    }

    int gapLength(int town, int gap) {
        return now.gaps.get(town).get(gap)[1];
    }

    int dayOfMonth(int town, int day) {
        return datesOf(town)[day][2];
    }

    int monthOf(int town, int day) {
        return datesOf(town)[day][1];
    }

    int yearOf(int town, int day) {
        return datesOf(town)[day][0];
    }

    int dayOfDate(int town, int year, int month, int dayOfMonth) {
        int[] wanted = {year, month, dayOfMonth};
        int[][] table = datesOf(town);
        for (int day = 0; day <= LAST_DAY; day++) {
            if (Arrays.equals(table[day], wanted)) {
                return day;
            }
        }
        return -1;
    }

    // ---- feasts

    int addFeast(int town, int month, int dayOfMonth) {
        change();
        now.feasts.add(new int[] {town, month, dayOfMonth, -1});
        forgetDueDays();
        return now.feasts.size() - 1;
    }

    int feastCount() {
        return now.feasts.size();
    }

    int feastTown(int feast) {
        return now.feasts.get(feast)[0];
    }

    int barredWeekday(int feast) {
        return now.feasts.get(feast)[3];
    }

    int barWeekday(int feast, int weekday) {
        change();
        int before = barredWeekday(feast);
        now.feasts.get(feast)[3] = weekday;
        return before;
    }

    int dayDue(int feast, int year) {
        if (dueDays[feast][year] == -2) {
            dueDays[feast][year] = findDay(now.feasts.get(feast), year);
        }
        return dueDays[feast][year];
    }

    private int findDay(int[] feast, int year) {
        int[][] table = datesOf(feast[0]);
        for (int day = yearStarts[feast[0]][year]; day <= LAST_DAY && table[day][0] == year; day++) {
            boolean laterMonth = table[day][1] > feast[1];
            if (laterMonth || table[day][1] == feast[1] && table[day][2] >= feast[2]) {
                return day;
            }
        }
        return -1;
    }

    int dayKept(int feast, int year) {
        int day = dayDue(feast, year);
        if (day >= 0 && day % 7 == barredWeekday(feast)) {
            return now.shift == 7 ? day + 1 : day + now.shift;
        }
        return day;
    }

    boolean isKept(int feast, int day) {
        int year = yearOf(feastTown(feast), day);
        return dayKept(feast, year) == day || year > 1 && dayKept(feast, year - 1) == day;
    }

    int feastsOn(int day) {
        int set = 0;
        for (int feast = 0; feast < feastCount(); feast++) {
            set += isKept(feast, day) ? 1 << feast : 0;
        }
        return set;
    }

    boolean isQuarrel(int day) {
        boolean[] towns = new boolean[2];
        for (int feast = 0; feast < feastCount(); feast++) {
            towns[feastTown(feast)] |= isKept(feast, day);
        }
        return towns[0] && towns[1];
    }

    // ---- the shift, the monks, passing days

    int setShift(int days) {
        change();
        int before = now.shift;
        now.shift = days;
        return before;
    }

    int shift() {
        return now.shift;
    }

    int setCopiesPerDay(int copies) {
        change();
        int before = now.copiesPerDay;
        now.copiesPerDay = copies;
        return before;
    }

    int copiesPerDay() {
        return now.copiesPerDay;
    }

    int passDays(int days) {
        change();
        int before = now.quarrels;
        for (int i = 0; i < days; i++) {
            passDay();
        }
        return now.quarrels - before;
    }

    private void passDay() {
        for (int feast = 0; feast < feastCount(); feast++) {
            now.feastsKept[feastTown(feast)] += isKept(feast, now.today) ? 1 : 0;
        }
        now.quarrels += isQuarrel(now.today) ? 1 : 0;
        now.copies += feastsOn(now.today) == 0 ? now.copiesPerDay : 0;
        now.today++;
    }

    int today() {
        return now.today;
    }

    int feastsKept(int town) {
        return now.feastsKept[town];
    }

    int quarrelCount() {
        return now.quarrels;
    }

    int copiesMade() {
        return now.copies;
    }

    // ---- looking ahead

    int nextDay(int feast) {
        for (int day = now.today; day < now.today + 800; day++) {
            if (isKept(feast, day)) {
                return day;
            }
        }
        return -1;
    }

    int daysUntilMeeting(int feast, int other) {
        for (int days = 0; days <= 2000; days++) {
            if (isKept(feast, now.today + days) && isKept(other, now.today + days)) {
                return days;
            }
        }
        return -1;
    }

    int quarrelsWithin(int days) {
        int count = 0;
        for (int i = 0; i < days; i++) {
            count += isQuarrel(now.today + i) ? 1 : 0;
        }
        return count;
    }

    int bestBarredWeekday(int feast) {
        int before = barredWeekday(feast);
        int best = 0;
        int fewest = 1000;
        for (int weekday = 6; weekday >= 0; weekday--) {
            now.feasts.get(feast)[3] = weekday;
            int quarrels = quarrelsWithin(400);
            if (quarrels <= fewest) {
                fewest = quarrels;
                best = weekday;
            }
        }
        now.feasts.get(feast)[3] = before;
        return best;
    }

    // ---- the text

    int appendText(String characters) {
        text.append(characters);
        return text.length();
    }

    int clearText() {
        int before = text.length();
        text.setLength(0);
        return before;
    }

    int textLength() {
        return text.length();
    }

    int textCharacter(int index) {
        return text.charAt(index);
    }

    int textError() {
        if (text.toString().matches("[AB][1-9][0-9]?\\.[1-9][0-9]?\\.[1-9][0-9]?[0-9]?")) {
            return -1;
        }
        for (int end = 1; end <= text.length(); end++) {
            if (!mayBegin(text.substring(0, end))) {
                return end - 1;
            }
        }
        return text.length();
    }

    /** Tells whether some correct text begins so. */
    private static boolean mayBegin(String prefix) {
        String number = "[1-9][0-9]?";
        return prefix.matches("[AB](" + number + "(\\.(" + number + "(\\.(" + number + "[0-9]?)?)?)?)?)?");
    }

    int dayOfText() {
        String[] numbers = text.substring(1).split("\\.");
        int town = text.charAt(0) - 'A';
        int[] wanted = {Integer.parseInt(numbers[2]), Integer.parseInt(numbers[1]), Integer.parseInt(numbers[0])};
        int[] date = {1, 1, 1};
        for (int day = 0; date[0] <= wanted[0]; day++) {
            if (Arrays.equals(date, wanted)) {
                return day;
            }
            walk(town, day, date);
        }
        return -1;
    }

    int writeDate(int town, int day) {
        int[] date = datesOf(town)[day];
        text.setLength(0);
        text.append(town == 0 ? "A" : "B").append(date[2]).append('.').append(date[1]).append('.').append(date[0]);
        return text.length();
    }

    // ---- undo, saved states

    int allowAllWeekdays(int feast) {
        return barWeekday(feast, -1);
    }

    int undo() {
        now = history.remove(history.size() - 1);
        forget();
        return history.size();
    }

    int undoCount() {
        return history.size();
    }

    int saveState(int slot) {
        slots[slot] = now.copy();
        return now.today;
    }

    boolean isSaved(int slot) {
        return slots[slot] != null;
    }

    int loadState(int slot) {
        change();
        now = slots[slot].copy();
        forget();
        return now.today;
    }
}
